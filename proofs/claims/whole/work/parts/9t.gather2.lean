/-- the scene as it waits -/
def sn_ (G : sv_G) (b : Nat) (h : sv_h) : Prop := (∃ n : Int32, h (b + 35) = some (.inr (6, [.ref (b + 1), .ref (b + 36), .int n, .ref (b + 37), .ref (b + 38), .ref (b + 39), .ref (b + 40), .ref (b + 41), .ref (b + 42), .ref (b + 43), .ref (b + 44), .ref (b + 45), .ref (b + 46), .ref (b + 47)]))) ∧ (∃ f, ab_I G h (b + 37) 100 f) ∧ (∃ f, ab_I G h (b + 38) 100 f) ∧ (∃ f, ab_I G h (b + 40) 400 f) ∧ (∃ f, ab_I G h (b + 41) 4 f) ∧ (∃ f, ab_I G h (b + 42) 16 f) ∧ (∃ f, ab_I G h (b + 43) 16 f) ∧ (∃ f, ab_I G h (b + 44) 401 f ∧ f 0 = 0) ∧ (∃ f, ab_I G h (b + 45) 1600 f) ∧ (∃ f, ab_I G h (b + 46) 1600 f) ∧ (∃ f, ab_I G h (b + 47) 1600 f) ∧ ab_mvs G h (b + 36) 16 (b + 48) ∧ ab_mvs G h (b + 39) 100 (b + 64) ∧ ab_mv0 G h (b + 48)
theorem sn_.sc {G : sv_G} {b : Nat} {mp : Nat → mvT} {h0 : sv_h} (N : sn_ G b h0) : sc_ G b mp h0 (va_up h0 (b + 35) (some (.inr (6, [.ref (b + 1), .ref (b + 36), .int 0, .ref (b + 37), .ref (b + 38), .ref (b + 39), .ref (b + 40), .ref (b + 41), .ref (b + 42), .ref (b + 43), .ref (b + 44), .ref (b + 45), .ref (b + 46), .ref (b + 47)])))) [] [] := by
  obtain ⟨⟨n, n1⟩, ⟨f1, n2⟩, ⟨f2, n3⟩, _, _, _, _, _, _, _, _, ⟨g1, m1, m2⟩, ⟨g2, m3, m4⟩, m5⟩ := N
  refine ⟨by decide, (sv_us.trans (by rw [show ([] : List (List Nat × Nat)).length = 0 from rfl, nI_0])), ⟨f1, (sv_un (by omega)).trans n2, fun i hi => absurd hi (Nat.not_lt_zero i)⟩, ⟨f2, (sv_un (by omega)).trans n3, fun i hi => absurd hi (Nat.not_lt_zero i)⟩, ⟨g1, (sv_un (by omega)).trans m1, fun i hi => (m2 i hi).1⟩, ⟨g2, (sv_un (by omega)).trans m3, fun i hi => (m4 i hi).1⟩, fun i hi => ?_, fun i hi => ?_, fun i hi => ?_, fun i hi => absurd hi (Nat.not_lt_zero i), fun a p1 p2 => sv_un (by omega)⟩
  · obtain ⟨_, x0, x1, x2, x3, e⟩ := m2 i hi
    exact ⟨x0, x1, x2, x3, (sv_un (by omega)).trans e⟩
  · have e : i = 0 := Nat.le_zero.mp hi
    rw [e]
    exact (sv_un (by omega)).trans (m5.trans mvC_I.symm)
  · obtain ⟨_, x0, x1, x2, x3, e⟩ := m4 i hi
    exact ⟨x0, x1, x2, x3, (sv_un (by omega)).trans e⟩
theorem sc_.sg {G : sv_G} {b : Nat} {k : Int32} {nc np pl : Nat} {R : Nat → Bool} {hm p3 p4 pa ma sz : Nat → Nat} {ly vo ar : Nat → Int32} {mp : Nat → mvT} {N : Nat → Nat} {X Y : Nat → Nat → Int} {fc : Nat → Nat → Nat} {oc : Nat → Nat → Option Nat} {h0 h1 : sv_h} {S : List (List Nat × Nat)} (C : sc_ G b mp h0 h1 [] S) (Z : sx_ G h0 b k nc np pl R hm p3 p4 pa ma sz ly vo ar mp N) (P : px_ G h0 np R pa sz X Y fc oc) (hS : ∀ i, i < S.length → (S.getD i ([], 0)).2 < np ∧ R (S.getD i ([], 0)).2 = true ∧ cbd (cor mp X Y (S.getD i ([], 0))) (sz (S.getD i ([], 0)).2)) : sg_ G b k nc np pl R hm pa sz ly vo ar X Y fc oc mp h1 S := by
  obtain ⟨s0, s1, s2, s4, s6, s8, sA, sB, sC, sD, sF⟩ := C
  obtain ⟨g1, ⟨f2, g2, g2a⟩, _, _, _, _, gp, gm, gn, gnp, gpl⟩ := Z
  refine ⟨s0, s1, s2, s4, s8, sD, (sF _ (by omega) (by omega)).trans g1, ⟨f2, (sF _ (by omega) (by omega)).trans g2, g2a⟩, fun p hp => ?_, fun p hp hr => ?_, hS, gnp⟩
  · obtain ⟨a1, _, a2, _⟩ := gp p hp
    exact ⟨(sF _ (by omega) (by omega)).trans a1, a2⟩
  · obtain ⟨_, _, a2, _⟩ := gp p hp
    obtain ⟨fx, fy, ff, fo, v6, v7, v8, v9, vA⟩ := P p hp hr
    exact ⟨fx, fy, ff, fo, (sF _ (by omega) (by omega)).trans v6, (sF _ (by omega) (by omega)).trans v7, (sF _ (by omega) (by omega)).trans v8, (sF _ (by omega) (by omega)).trans v9, vA⟩
theorem sk_.refl {G : sv_G} {w3 : Bool} {b : Nat} {sz : Nat → Nat} {X Y : Nat → Nat → Int} {mp : Nat → mvT} {T : List Nat × Nat → Nat → List (Int × Int × Int)} {S : List (List Nat × Nat)} {n : Nat} {h1 h : sv_h} (K : sk_ G w3 b sz X Y mp T S n h1 h) : sk_ G w3 b sz X Y mp T S n h h := ⟨K.1, K.2.1, K.2.2.1, fun _ _ => rfl⟩
theorem sn_.of {G : sv_G} {w3 : Bool} {b : Nat} {sz : Nat → Nat} {X Y : Nat → Nat → Int} {mp : Nat → mvT} {T : List Nat × Nat → Nat → List (Int × Int × Int)} {S : List (List Nat × Nat)} {h0 h1 h : sv_h} (C : sc_ G b mp h0 h1 [] S) (K : sk_ G w3 b sz X Y mp T S S.length h1 h) : sn_ G b h := by
  obtain ⟨s0, s1, ⟨fs, s2, _⟩, ⟨fb, s4, _⟩, ⟨fp, s6, s7⟩, ⟨fl, s8, s9⟩, sA, sB, sC, sD, sF⟩ := C
  obtain ⟨⟨fb2, fcx, fcy, k1, k2, k3, k4⟩, ⟨fs9, fa, fr9, ft, k5, k6, k7, k8, k9, kA, kB⟩, ⟨fsp, kC⟩, fr⟩ := K
  refine ⟨⟨_, (fr _ (by omega)).trans s1⟩, ⟨fs, (fr _ (by omega)).trans s2⟩, ⟨fb, (fr _ (by omega)).trans s4⟩, ⟨fb2, k1⟩, ⟨fsp, kC⟩, ⟨fcx, k2⟩, ⟨fcy, k3⟩, ⟨fs9, k5, k9⟩, ⟨fa, k6⟩, ⟨fr9, k7⟩, ⟨ft, k8⟩, ⟨fp, (fr _ (by omega)).trans s6, fun j hj => ⟨s7 j hj, ?_⟩⟩, ⟨fl, (fr _ (by omega)).trans s8, fun j hj => ⟨s9 j hj, ?_⟩⟩, ?_⟩
  · obtain ⟨x0, x1, x2, x3, e⟩ := sA j hj
    exact ⟨x0, x1, x2, x3, (fr _ (by omega)).trans e⟩
  · obtain ⟨x0, x1, x2, x3, e⟩ := sC j hj
    exact ⟨x0, x1, x2, x3, (fr _ (by omega)).trans e⟩
  · have := sB 0 (Nat.zero_le _)
    exact (fr _ (by omega)).trans (this.trans mvC_I)
set_option maxHeartbeats 4000000 in
set_option maxRecDepth 100000 in
theorem c_gathers (G : sv_G) (hki : sv_ki G) (h0 : sv_h) (z b : Nat) (k : Int32) (nc np pl : Nat) (R : Nat → Bool) (hm p3 p4 pa ma sz : Nat → Nat) (ly vo ar : Nat → Int32) (mp : Nat → mvT) (N : Nat → Nat) (Z9 : sx_ G h0 b k nc np pl R hm p3 p4 pa ma sz ly vo ar mp N) (X Y : Nat → Nat → Int) (fc : Nat → Nat → Nat) (oc : Nat → Nat → Option Nat) (PX : px_ G h0 np R pa sz X Y fc oc) (NN9 : sn_ G b h0) (q : Nat) (hqa : q < b + 35 ∨ b + 164 ≤ q) (n0 : Int64) (kd : Nat) (hkd : kd < 11) (l1 l2 x3 x4 x5 x6 : Int32) (hru : h0 q = some (.inr (5, [.long n0, .ref (G.2.2.2.2.1 kd), .int l1, .int l2, .int x3, .int x4, .int x5, .int x6]))) (hcase : kd ≠ 8) (hN : ∀ r c, r ≤ 16 → c < nc → oc_n np pl R hm p3 p4 r c ≤ N c) (hmany : ¬ (kd < 7 ∧ kd ≠ 5 ∧ kd ≠ 6)) (c : Nat) (hc : c < nc) (hln : (dS np pl (dQ R hm ly kd l1 l2) p3 p4 16 c []).length ≤ 100) (hS : ∀ i, i < (dS np pl (dQ R hm ly kd l1 l2) p3 p4 16 c []).length → ((dS np pl (dQ R hm ly kd l1 l2) p3 p4 16 c []).getD i ([], 0)).2 < np ∧ R ((dS np pl (dQ R hm ly kd l1 l2) p3 p4 16 c []).getD i ([], 0)).2 = true ∧ cbd (cor mp X Y ((dS np pl (dQ R hm ly kd l1 l2) p3 p4 16 c []).getD i ([], 0))) (sz ((dS np pl (dQ R hm ly kd l1 l2) p3 p4 16 c []).getD i ([], 0)).2)) : CT G mX8_gather [.ref (b + 35), .int (nI c), .ref q] h0 z (fun v h2 z2 => v = none ∧ z2 = z ∧ sg_ G b k nc np pl R hm pa sz ly vo ar X Y fc oc mp h2 (dS np pl (dQ R hm ly kd l1 l2) p3 p4 16 c []) ∧ sk_ G true b sz X Y mp (sideL mp sz X Y fc) (dS np pl (dQ R hm ly kd l1 l2) p3 p4 16 c []) (dS np pl (dQ R hm ly kd l1 l2) p3 p4 16 c []).length h2 h2 ∧ sn_ G b h2 ∧ ∀ a, ¬ (b + 35 ≤ a ∧ a < b + 164) → h2 a = h0 a) := by
  refine CT.of (by decide +kernel) rfl rfl (Nat.le_of_ble_eq_true rfl) ?_
  have hct := c_desc G h0 z b k nc np pl R hm p3 p4 pa ma sz ly vo ar mp N Z9 q hqa n0 kd hkd l1 l2 x3 x4 x5 x6 hru hN hmany 15 [] c [] _ rfl hc (sn_.sc NN9) (by rw [List.length_nil, Nat.zero_add]; exact hln)
  rw [show nI ([] : List Nat).length = 0 from nI_0, show brn [] = -1 from rfl] at hct
  obtain ⟨nn, hn35⟩ := id NN9.1
  refine v_aload_n dX8_gather_0 rfl 0 rfl ?_
  refine v_iconst (v := 0) dX8_gather_1 (by decide) ?_
  refine v_putf 2 (fs' := [_, _, _, _, _, _, _, _, _, _, _, _, _, _]) (ci := 6) (C := RX8) (T := TX8) (N := 14) (ty := .int) rfl iwX8_gather_X8 tyX8 tyX8_ok nmX8 (Nat.le_of_ble_eq_true rfl) (by decide +kernel) rfl rfl dX8_gather_2 rfl rfl (by repeat (first | with_reducible assumption | (with_reducible refine sv_us.trans ?_; exact rfl) | with_reducible refine (sv_un (by omega)).trans ?_)) (Nat.le_of_ble_eq_true rfl) rfl ?_
  refine v_aload_n dX8_gather_5 rfl 0 rfl ?_
  refine v_iload_n dX8_gather_6 rfl 1 rfl ?_
  refine v_iconst (v := 0) dX8_gather_7 (by decide) ?_
  refine v_iconst (v := (-1)) dX8_gather_8 (by decide) ?_
  refine v_aload_n dX8_gather_9 rfl 2 rfl ?_
  refine v_callVq (M' := mDs 15) (n := 4) (As := [_, _, _, _]) (ci := 6) (r := (RX8, TX8, 14)) gX8_gather_X8_descend rfl (by decide +kernel) ⟨(Nat.le_of_ble_eq_true rfl), (Nat.le_of_ble_eq_true rfl)⟩ rfl rfl dX8_gather_10 rfl ⟨(Nat.le_of_ble_eq_true rfl), (Nat.le_of_ble_eq_true rfl)⟩ (Nat.le_of_ble_eq_true rfl) (by repeat (first | with_reducible assumption | (with_reducible refine sv_us.trans ?_; exact rfl) | with_reducible refine (sv_un (by omega)).trans ?_)) rfl (hct) (fun v h1 z1 hq9 => ?_)
  obtain ⟨rfl, rfl, C1⟩ := hq9
  rw [List.nil_append] at C1
  have G1 := C1.sg Z9 PX hS
  refine v_iconst (v := 0) dX8_gather_13 (by decide) ?_
  refine v_istore_n (L' := [(3, _), (0, _), (1, _), (2, _)]) dX8_gather_14 rfl (Nat.le_of_ble_eq_true rfl) rfl ?_
  refine v_sub (L' := [(3, _), (0, _), (1, _), (2, _)]) [0, 1, 2, 3] rfl ?_
  obtain ⟨_, _, _, _, _, _, _, _, _, _, sF⟩ := id C1
  obtain ⟨_, _, _, ⟨a1, a2⟩, ⟨a3, a4⟩, ⟨a5, a6⟩, ⟨a7, a8⟩, ⟨a9, aA, aB⟩, ⟨aC, aD⟩, ⟨aE, aF⟩, ⟨aG, aH⟩, _, _, _⟩ := id NN9
  refine l_gaths G hki _ h1 _ b k nc np pl R hm pa sz ly vo ar X Y fc oc mp _ G1 q (by omega) n0 kd hkd l1 l2 x3 x4 x5 x6 ((sF q (by omega) (by omega)).trans hru) hcase (nI c) (fun h2 K2 => ?_) _ 0 h1 (Nat.zero_add _) ⟨⟨a1, a5, a7, (sF _ (by omega) (by omega)).trans a2, (sF _ (by omega) (by omega)).trans a6, (sF _ (by omega) (by omega)).trans a8, fun i hi => absurd hi (Nat.not_lt_zero i)⟩, ⟨a9, aC, aE, aG, (sF _ (by omega) (by omega)).trans aA, (sF _ (by omega) (by omega)).trans aD, (sF _ (by omega) (by omega)).trans aF, (sF _ (by omega) (by omega)).trans aH, aB, (by rw [Nat.mul_zero]; exact aB.trans nI_0.symm), fun i hi => absurd hi (Nat.not_lt_zero i)⟩, ⟨a3, (sF _ (by omega) (by omega)).trans a4⟩, fun _ _ => rfl⟩
  exact ⟨rfl, rfl, G1.kept K2.2.2.2, K2.refl, sn_.of C1 K2, fun a p => (K2.2.2.2 a (by omega)).trans (sF a (by omega) (by omega))⟩

set_option maxHeartbeats 4000000 in
set_option maxRecDepth 100000 in
theorem c_gathers1 (G : sv_G) (hki : sv_ki G) (h0 : sv_h) (z b : Nat) (k : Int32) (nc np pl : Nat) (R : Nat → Bool) (hm p3 p4 pa ma sz : Nat → Nat) (ly vo ar : Nat → Int32) (mp : Nat → mvT) (N : Nat → Nat) (Z9 : sx_ G h0 b k nc np pl R hm p3 p4 pa ma sz ly vo ar mp N) (X Y : Nat → Nat → Int) (fc : Nat → Nat → Nat) (oc : Nat → Nat → Option Nat) (PX : px_ G h0 np R pa sz X Y fc oc) (NN9 : sn_ G b h0) (q : Nat) (hqa : q < b + 35 ∨ b + 164 ≤ q) (n0 : Int64) (kd : Nat) (hkd : kd < 11) (l1 l2 x3 x4 x5 x6 : Int32) (hru : h0 q = some (.inr (5, [.long n0, .ref (G.2.2.2.2.1 kd), .int l1, .int l2, .int x3, .int x4, .int x5, .int x6]))) (hcase : kd ≠ 8) (hone : kd < 7 ∧ kd ≠ 5 ∧ kd ≠ 6) (c : Nat) (hc : c < nc) (hln : (dO np (dQ R hm ly kd l1 l2) c []).length ≤ 100) (hS : ∀ i, i < (dO np (dQ R hm ly kd l1 l2) c []).length → ((dO np (dQ R hm ly kd l1 l2) c []).getD i ([], 0)).2 < np ∧ R ((dO np (dQ R hm ly kd l1 l2) c []).getD i ([], 0)).2 = true ∧ cbd (cor mp X Y ((dO np (dQ R hm ly kd l1 l2) c []).getD i ([], 0))) (sz ((dO np (dQ R hm ly kd l1 l2) c []).getD i ([], 0)).2)) : CT G mX8_gather [.ref (b + 35), .int (nI c), .ref q] h0 z (fun v h2 z2 => v = none ∧ z2 = z ∧ sg_ G b k nc np pl R hm pa sz ly vo ar X Y fc oc mp h2 (dO np (dQ R hm ly kd l1 l2) c []) ∧ sk_ G true b sz X Y mp (sideL mp sz X Y fc) (dO np (dQ R hm ly kd l1 l2) c []) (dO np (dQ R hm ly kd l1 l2) c []).length h2 h2 ∧ sn_ G b h2 ∧ ∀ a, ¬ (b + 35 ≤ a ∧ a < b + 164) → h2 a = h0 a) := by
  refine CT.of (by decide +kernel) rfl rfl (Nat.le_of_ble_eq_true rfl) ?_
  have hct := c_desc1 G h0 z b k nc np pl R hm p3 p4 pa ma sz ly vo ar mp N Z9 q hqa n0 kd hkd l1 l2 x3 x4 x5 x6 hru hone 15 [] (by decide) c hc [] _ (sn_.sc NN9) (by rw [List.length_nil, Nat.zero_add]; exact hln)
  rw [show nI ([] : List Nat).length = 0 from nI_0, show brn [] = -1 from rfl] at hct
  obtain ⟨nn, hn35⟩ := id NN9.1
  refine v_aload_n dX8_gather_0 rfl 0 rfl ?_
  refine v_iconst (v := 0) dX8_gather_1 (by decide) ?_
  refine v_putf 2 (fs' := [_, _, _, _, _, _, _, _, _, _, _, _, _, _]) (ci := 6) (C := RX8) (T := TX8) (N := 14) (ty := .int) rfl iwX8_gather_X8 tyX8 tyX8_ok nmX8 (Nat.le_of_ble_eq_true rfl) (by decide +kernel) rfl rfl dX8_gather_2 rfl rfl (by repeat (first | with_reducible assumption | (with_reducible refine sv_us.trans ?_; exact rfl) | with_reducible refine (sv_un (by omega)).trans ?_)) (Nat.le_of_ble_eq_true rfl) rfl ?_
  refine v_aload_n dX8_gather_5 rfl 0 rfl ?_
  refine v_iload_n dX8_gather_6 rfl 1 rfl ?_
  refine v_iconst (v := 0) dX8_gather_7 (by decide) ?_
  refine v_iconst (v := (-1)) dX8_gather_8 (by decide) ?_
  refine v_aload_n dX8_gather_9 rfl 2 rfl ?_
  refine v_callVq (M' := mDs 15) (n := 4) (As := [_, _, _, _]) (ci := 6) (r := (RX8, TX8, 14)) gX8_gather_X8_descend rfl (by decide +kernel) ⟨(Nat.le_of_ble_eq_true rfl), (Nat.le_of_ble_eq_true rfl)⟩ rfl rfl dX8_gather_10 rfl ⟨(Nat.le_of_ble_eq_true rfl), (Nat.le_of_ble_eq_true rfl)⟩ (Nat.le_of_ble_eq_true rfl) (by repeat (first | with_reducible assumption | (with_reducible refine sv_us.trans ?_; exact rfl) | with_reducible refine (sv_un (by omega)).trans ?_)) rfl (hct) (fun v h1 z1 hq9 => ?_)
  obtain ⟨rfl, rfl, C1⟩ := hq9
  rw [List.nil_append] at C1
  have G1 := C1.sg Z9 PX hS
  refine v_iconst (v := 0) dX8_gather_13 (by decide) ?_
  refine v_istore_n (L' := [(3, _), (0, _), (1, _), (2, _)]) dX8_gather_14 rfl (Nat.le_of_ble_eq_true rfl) rfl ?_
  refine v_sub (L' := [(3, _), (0, _), (1, _), (2, _)]) [0, 1, 2, 3] rfl ?_
  obtain ⟨_, _, _, _, _, _, _, _, _, _, sF⟩ := id C1
  obtain ⟨_, _, _, ⟨a1, a2⟩, ⟨a3, a4⟩, ⟨a5, a6⟩, ⟨a7, a8⟩, ⟨a9, aA, aB⟩, ⟨aC, aD⟩, ⟨aE, aF⟩, ⟨aG, aH⟩, _, _, _⟩ := id NN9
  refine l_gaths G hki _ h1 _ b k nc np pl R hm pa sz ly vo ar X Y fc oc mp _ G1 q (by omega) n0 kd hkd l1 l2 x3 x4 x5 x6 ((sF q (by omega) (by omega)).trans hru) hcase (nI c) (fun h2 K2 => ?_) _ 0 h1 (Nat.zero_add _) ⟨⟨a1, a5, a7, (sF _ (by omega) (by omega)).trans a2, (sF _ (by omega) (by omega)).trans a6, (sF _ (by omega) (by omega)).trans a8, fun i hi => absurd hi (Nat.not_lt_zero i)⟩, ⟨a9, aC, aE, aG, (sF _ (by omega) (by omega)).trans aA, (sF _ (by omega) (by omega)).trans aD, (sF _ (by omega) (by omega)).trans aF, (sF _ (by omega) (by omega)).trans aH, aB, (by rw [Nat.mul_zero]; exact aB.trans nI_0.symm), fun i hi => absurd hi (Nat.not_lt_zero i)⟩, ⟨a3, (sF _ (by omega) (by omega)).trans a4⟩, fun _ _ => rfl⟩
  exact ⟨rfl, rfl, G1.kept K2.2.2.2, K2.refl, sn_.of C1 K2, fun a p => (K2.2.2.2 a (by omega)).trans (sF a (by omega) (by omega))⟩

set_option maxHeartbeats 4000000 in
set_option maxRecDepth 100000 in
theorem c_gatherc (G : sv_G) (hki : sv_ki G) (h0 : sv_h) (z b : Nat) (k : Int32) (nc np pl : Nat) (R : Nat → Bool) (hm p3 p4 pa ma sz : Nat → Nat) (ly vo ar : Nat → Int32) (mp : Nat → mvT) (N : Nat → Nat) (Z9 : sx_ G h0 b k nc np pl R hm p3 p4 pa ma sz ly vo ar mp N) (X Y : Nat → Nat → Int) (fc : Nat → Nat → Nat) (oc : Nat → Nat → Option Nat) (PX : px_ G h0 np R pa sz X Y fc oc) (NN9 : sn_ G b h0) (q : Nat) (hqa : q < b + 35 ∨ b + 164 ≤ q) (n0 : Int64) (kd : Nat) (hkd : kd < 11) (l1 l2 x3 x4 x5 x6 : Int32) (hru : h0 q = some (.inr (5, [.long n0, .ref (G.2.2.2.2.1 kd), .int l1, .int l2, .int x3, .int x4, .int x5, .int x6]))) (hcase : kd = 8) (hN : ∀ r c, r ≤ 16 → c < nc → oc_n np pl R hm p3 p4 r c ≤ N c) (hmany : ¬ (kd < 7 ∧ kd ≠ 5 ∧ kd ≠ 6)) (c : Nat) (hc : c < nc) (hln : (dS np pl (dQ R hm ly kd l1 l2) p3 p4 16 c []).length ≤ 100) (hS : ∀ i, i < (dS np pl (dQ R hm ly kd l1 l2) p3 p4 16 c []).length → ((dS np pl (dQ R hm ly kd l1 l2) p3 p4 16 c []).getD i ([], 0)).2 < np ∧ R ((dS np pl (dQ R hm ly kd l1 l2) p3 p4 16 c []).getD i ([], 0)).2 = true ∧ cbd (cor mp X Y ((dS np pl (dQ R hm ly kd l1 l2) p3 p4 16 c []).getD i ([], 0))) (sz ((dS np pl (dQ R hm ly kd l1 l2) p3 p4 16 c []).getD i ([], 0)).2)) : CT G mX8_gather [.ref (b + 35), .int (nI c), .ref q] h0 z (fun v h2 z2 => v = none ∧ z2 = z ∧ sg_ G b k nc np pl R hm pa sz ly vo ar X Y fc oc mp h2 (dS np pl (dQ R hm ly kd l1 l2) p3 p4 16 c []) ∧ sk_ G false b sz X Y mp (cornL mp sz X Y oc) (dS np pl (dQ R hm ly kd l1 l2) p3 p4 16 c []) (dS np pl (dQ R hm ly kd l1 l2) p3 p4 16 c []).length h2 h2 ∧ sn_ G b h2 ∧ ∀ a, ¬ (b + 35 ≤ a ∧ a < b + 164) → h2 a = h0 a) := by
  refine CT.of (by decide +kernel) rfl rfl (Nat.le_of_ble_eq_true rfl) ?_
  have hct := c_desc G h0 z b k nc np pl R hm p3 p4 pa ma sz ly vo ar mp N Z9 q hqa n0 kd hkd l1 l2 x3 x4 x5 x6 hru hN hmany 15 [] c [] _ rfl hc (sn_.sc NN9) (by rw [List.length_nil, Nat.zero_add]; exact hln)
  rw [show nI ([] : List Nat).length = 0 from nI_0, show brn [] = -1 from rfl] at hct
  obtain ⟨nn, hn35⟩ := id NN9.1
  refine v_aload_n dX8_gather_0 rfl 0 rfl ?_
  refine v_iconst (v := 0) dX8_gather_1 (by decide) ?_
  refine v_putf 2 (fs' := [_, _, _, _, _, _, _, _, _, _, _, _, _, _]) (ci := 6) (C := RX8) (T := TX8) (N := 14) (ty := .int) rfl iwX8_gather_X8 tyX8 tyX8_ok nmX8 (Nat.le_of_ble_eq_true rfl) (by decide +kernel) rfl rfl dX8_gather_2 rfl rfl (by repeat (first | with_reducible assumption | (with_reducible refine sv_us.trans ?_; exact rfl) | with_reducible refine (sv_un (by omega)).trans ?_)) (Nat.le_of_ble_eq_true rfl) rfl ?_
  refine v_aload_n dX8_gather_5 rfl 0 rfl ?_
  refine v_iload_n dX8_gather_6 rfl 1 rfl ?_
  refine v_iconst (v := 0) dX8_gather_7 (by decide) ?_
  refine v_iconst (v := (-1)) dX8_gather_8 (by decide) ?_
  refine v_aload_n dX8_gather_9 rfl 2 rfl ?_
  refine v_callVq (M' := mDs 15) (n := 4) (As := [_, _, _, _]) (ci := 6) (r := (RX8, TX8, 14)) gX8_gather_X8_descend rfl (by decide +kernel) ⟨(Nat.le_of_ble_eq_true rfl), (Nat.le_of_ble_eq_true rfl)⟩ rfl rfl dX8_gather_10 rfl ⟨(Nat.le_of_ble_eq_true rfl), (Nat.le_of_ble_eq_true rfl)⟩ (Nat.le_of_ble_eq_true rfl) (by repeat (first | with_reducible assumption | (with_reducible refine sv_us.trans ?_; exact rfl) | with_reducible refine (sv_un (by omega)).trans ?_)) rfl (hct) (fun v h1 z1 hq9 => ?_)
  obtain ⟨rfl, rfl, C1⟩ := hq9
  rw [List.nil_append] at C1
  have G1 := C1.sg Z9 PX hS
  refine v_iconst (v := 0) dX8_gather_13 (by decide) ?_
  refine v_istore_n (L' := [(3, _), (0, _), (1, _), (2, _)]) dX8_gather_14 rfl (Nat.le_of_ble_eq_true rfl) rfl ?_
  refine v_sub (L' := [(3, _), (0, _), (1, _), (2, _)]) [0, 1, 2, 3] rfl ?_
  obtain ⟨_, _, _, _, _, _, _, _, _, _, sF⟩ := id C1
  obtain ⟨_, _, _, ⟨a1, a2⟩, ⟨a3, a4⟩, ⟨a5, a6⟩, ⟨a7, a8⟩, ⟨a9, aA, aB⟩, ⟨aC, aD⟩, ⟨aE, aF⟩, ⟨aG, aH⟩, _, _, _⟩ := id NN9
  refine l_gathc G hki _ h1 _ b k nc np pl R hm pa sz ly vo ar X Y fc oc mp _ G1 q (by omega) n0 kd hkd l1 l2 x3 x4 x5 x6 ((sF q (by omega) (by omega)).trans hru) hcase (nI c) (fun h2 K2 => ?_) _ 0 h1 (Nat.zero_add _) ⟨⟨a1, a5, a7, (sF _ (by omega) (by omega)).trans a2, (sF _ (by omega) (by omega)).trans a6, (sF _ (by omega) (by omega)).trans a8, fun i hi => absurd hi (Nat.not_lt_zero i)⟩, ⟨a9, aC, aE, aG, (sF _ (by omega) (by omega)).trans aA, (sF _ (by omega) (by omega)).trans aD, (sF _ (by omega) (by omega)).trans aF, (sF _ (by omega) (by omega)).trans aH, aB, (by rw [Nat.mul_zero]; exact aB.trans nI_0.symm), fun i hi => absurd hi (Nat.not_lt_zero i)⟩, ⟨a3, (sF _ (by omega) (by omega)).trans a4⟩, fun _ _ => rfl⟩
  exact ⟨rfl, rfl, G1.kept K2.2.2.2, K2.refl, sn_.of C1 K2, fun a p => (K2.2.2.2 a (by omega)).trans (sF a (by omega) (by omega))⟩

