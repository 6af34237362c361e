section GU
variable {gu : Nat → Int64}
theorem mld_.z {G : sv_G} {h : sv_h} {b k : Nat} {n pg n1 pg1 : Nat → Nat} {cc cc1 : Nat → Nat → Int × Int} (H : mld_ G h b k n pg cc) : mld_ G h b 0 n1 pg1 cc1 := by
  obtain ⟨f1, f2, f3, f4, f5, f6, f7, f8, f9, a1, a2, a3, a4, a5, a6, a7, a8, a9, q⟩ := H
  exact ⟨f1, f2, f3, f4, f5, f6, f7, f8, f9, a1, a2, a3, a4, a5, a6, a7, a8, a9, fun w hw => absurd hw (Nat.not_lt_zero w)⟩
theorem crR_b {C : Nat → Int × Int} {n : Nat} (h0 : 0 < n) (h : cbd C n) : cbd (crR C n) (n + 1) := fun i hi => (by
  unfold crR
  split
  · exact h 0 h0
  · exact h i (by omega))
/-- the occurrences are in order -/
def mok_ (np pl : Nat) (sz : Nat → Nat) (mp : Nat → mvT) (X Y : Nat → Nat → Int) (O : List (List Nat × Nat)) : Prop := ∀ q, q ∈ O → q.2 < np ∧ (∀ i, i ∈ q.1 → i < pl) ∧ 0 < sz q.2 ∧ (∀ d, d ≤ q.1.length → cbd (crD mp X Y q d) (sz q.2)) ∧ ∀ d, ∀ x y : Int, -200000 ≤ x ∧ x ≤ 200000 → -200000 ≤ y ∧ y ≤ 200000 → (-1000000000 ≤ (mvA (mvW mp (q.1.take d)) (x, y)).1 ∧ (mvA (mvW mp (q.1.take d)) (x, y)).1 ≤ 1000000000) ∧ (-1000000000 ≤ (mvA (mvW mp (q.1.take d)) (x, y)).2 ∧ (mvA (mvW mp (q.1.take d)) (x, y)).2 ≤ 1000000000)
/-- what is loaded for a pair -/
def prN (sz : Nat → Nat) (q r : List Nat × Nat) (w : Nat) : Nat := if w = 0 then sz q.2 else sz r.2
def prP (q r : List Nat × Nat) (w : Nat) : Nat := if w = 0 then q.2 else r.2
def prC (mp : Nat → mvT) (sz : Nat → Nat) (X Y : Nat → Nat → Int) (q r : List Nat × Nat) (m w : Nat) : Nat → Int × Int := if w = 0 then crR (crD mp X Y q m) (sz q.2) else crR (crD mp X Y r m) (sz r.2)
/-- the cell in which a pair meets -/
def mcl (p4 : Nat → Nat) (top : Nat) (w : List Nat) (m : Nat) : Nat := if m = 0 then top else p4 (w.getD (m - 1) 0)
/-- what a pair tells the model -/
def pQ (fl : Int32) (kd : Nat) (x3 x4 x5 x6 : Int32) (p4 : Nat → Nat) (vo : Nat → Int32) (mp : Nat → mvT) (sz : Nat → Nat) (X Y : Nat → Nat → Int) (top : Nat) (q r : List Nat × Nat) : List (List Int64) := if fl = 0 ∧ 0 < cpx q.1 r.1 then [] else bQ (mvW mp (q.1.take (cpx q.1 r.1))) kd x3 x4 x5 x6 (mcl p4 top q.1 (cpx q.1 r.1) : Int) (prN sz q r) (prP q r) (prC mp sz X Y q r (cpx q.1 r.1)) vo
set_option maxHeartbeats 4000000 in
set_option maxRecDepth 100000 in
theorem m_pair (G : sv_G) (z b nc np pl : Nat) (R : Nat → Bool) (hm p3 p4 sz : Nat → Nat) (ly vo : Nat → Int32) (mp : Nat → mvT) (X Y : Nat → Nat → Int) (hb : sv_h) (fs0 : List Value) (hq0 : mfq_ b nc np pl fs0) (MY : myl_ G hb b nc np pl R hm p3 p4 sz ly vo mp X Y) (O : List (List Nat × Nat)) (MO : moc_ G hb b O) (OK : mok_ np pl sz mp X Y O) (ri kd : Nat) (l1 l2 x3 x4 x5 x6 : Int32) (RU : mru_ G hb b ri kd l1 l2 x3 x4 x5 x6) (h58 : fs0[58]? = some (.int (nI ri))) (hen : x6 = -1 ∨ 0 ≤ x6) (n0 pg0 : Nat → Nat) (cc0 : Nat → Nat → Int × Int) (LD : mld_ G hb b 0 n0 pg0 cc0) (fl : Int32) (h59 : fs0[59]? = some (.int fl)) (top : Nat) (htop : top < nc) (o u : Nat) (ho : o < O.length) (hu : u < O.length) (hm9 : hb (b + 220) = some (.inr (11, fs0))) (E0 : List (List Int64)) (T : mT_ gu G hb b fs0 E0) : CT G mX13_pair [.ref (b + 220), .int (nI top), .int (nI o), .int (nI u)] hb z (fun v9 h1 z1 => v9 = none ∧ z1 = z ∧ ∃ fs1, h1 (b + 220) = some (.inr (11, fs1)) ∧ fs1.length = 71 ∧ fsE [28, 29, 52, 53, 54, 55, 56, 57, 60, 61, 62] fs0 fs1 ∧ (∀ a, ¬ (b + 249 ≤ a ∧ a < b + 258) → a ≠ b + 220 → a ≠ b + 241 → h1 a = hb a) ∧ mld_ G h1 b 0 n0 pg0 cc0 ∧ mT_ gu G h1 b fs1 (E0 ++ pQ fl kd x3 x4 x5 x6 p4 vo mp sz X Y top (O.getD o ([], 0)) (O.getD u ([], 0)))) := by
  refine CT.of (by decide +kernel) rfl rfl (Nat.le_of_ble_eq_true rfl) ?_
  have hlen : fs0.length = 71 := hq0.1
  have f_flat := h59
  obtain ⟨_, _, _, _, _, _, _, _, _, _, _, yB, yC, yD, yE, yF⟩ := id MY
  obtain ⟨ko1, ko2, ko3, ko4, ko6⟩ := OK _ (getD_mem ([], 0) ho)
  obtain ⟨ku1, ku2, ku3, ku4, ku6⟩ := OK _ (getD_mem ([], 0) hu)
  have cl := cpx_le (O.getD o ([], 0)).1 (O.getD u ([], 0)).1
  have cl1 := cl.1
  have cl2 := cl.2
  have o16 : (O.getD o ([], 0)).1.length < 16 := (by obtain ⟨_, _, _, _, _, _, _, o5⟩ := id MO; exact (o5 o ho).2.2.1)
  have ko5 : prN sz (O.getD o ([], 0)) (O.getD u ([], 0)) 0 ≤ 16 := (yE _ ko1).1
  have hmc : (mcl p4 top (O.getD o ([], 0)).1 (cpx (O.getD o ([], 0)).1 (O.getD u ([], 0)).1)) < 100 := (by
    unfold mcl
    split
    · omega
    · have := (yF _ (ko2 _ (getD_mem 0 (show (cpx (O.getD o ([], 0)).1 (O.getD u ([], 0)).1) - 1 < (O.getD o ([], 0)).1.length by omega)))).2
      omega)
  have LKK : mlk_ 2 (prN sz (O.getD o ([], 0)) (O.getD u ([], 0))) (prP (O.getD o ([], 0)) (O.getD u ([], 0))) (prC mp sz X Y (O.getD o ([], 0)) (O.getD u ([], 0)) (cpx (O.getD o ([], 0)).1 (O.getD u ([], 0)).1)) := ⟨Nat.le_refl 2, fun w hw => (by
    by_cases e9 : w = 0
    · subst e9
      exact ⟨⟨ko3, (yE _ ko1).1⟩, Nat.lt_of_lt_of_le ko1 yB, crR_b ko3 (ko4 _ cl1)⟩
    · have e8 : w = 1 := (by omega)
      subst e8
      exact ⟨⟨ku3, (yE _ ku1).1⟩, Nat.lt_of_lt_of_le ku1 yB, crR_b ku3 (ku4 _ cl2)⟩)⟩
  have A1 : fsE [28, 29, 52, 53, 54, 55, 56, 57, 60, 61, 62] fs0 (((fs0.set 60 (.int (nI o))).set 61 (.int (nI (cpx (O.getD o ([], 0)).1 (O.getD u ([], 0)).1)))).set 62 (.int (nI (mcl p4 top (O.getD o ([], 0)).1 (cpx (O.getD o ([], 0)).1 (O.getD u ([], 0)).1))))) := ((fsE.rf.st (by decide)).st (by decide)).st (by decide)
  refine v_aload_n dX13_pair_0 rfl 0 rfl ?_
  refine v_iload_n dX13_pair_1 rfl 2 rfl ?_
  refine v_iload_n dX13_pair_2 rfl 3 rfl ?_
  refine v_callVq (M' := mX13_together) (n := 2) (As := [_, _]) (ci := 11) (r := (RX13, TX13, 71)) gX13_pair_X13_together rfl (by decide +kernel) ⟨(Nat.le_of_ble_eq_true rfl), (Nat.le_of_ble_eq_true rfl)⟩ rfl rfl dX13_pair_3 rfl ⟨(Nat.le_of_ble_eq_true rfl), (Nat.le_of_ble_eq_true rfl)⟩ (Nat.le_of_ble_eq_true rfl) (by repeat (first | with_reducible assumption | (with_reducible refine sv_us.trans ?_; exact rfl) | with_reducible refine (sv_un (by omega)).trans ?_)) rfl (m_together G _ b nc np pl hb fs0 hq0 hm9 O MO o ho u hu (fun i hi => Nat.lt_of_lt_of_le (ko2 i hi) (by omega)) (fun i hi => Nat.lt_of_lt_of_le (ku2 i hi) (by omega))) (fun v9 h9 y9 hq => v_pq hq ?_)
  refine v_istore (L' := [(4, _), (0, _), (1, _), (2, _), (3, _)]) dX13_pair_6 (Nat.le_of_ble_eq_true rfl) rfl ?_
  refine v_aload_n dX13_pair_8 rfl 1 rfl ?_
  refine v_getf 59 (ci := 11) (C := RX13) (T := TX13) (N := 71) rfl iwX13_pair_X13 (Nat.le_of_ble_eq_true rfl) (by decide +kernel) dX13_pair_9 (by repeat (first | with_reducible assumption | (with_reducible refine sv_us.trans ?_; exact rfl) | with_reducible refine (sv_un (by omega)).trans ?_)) (by repeat (first | with_reducible assumption | (with_reducible refine (sv_ls (by first | omega | (simp only [List.length_set]; omega))).trans ?_; exact rfl) | with_reducible refine (List.getElem?_set_ne (by decide)).trans ?_)) ?_
  refine v_if_ne (tgt := 21) dX13_pair_12 (by decide) (fun c_12 => ?_) (fun c_12 => ?_)
  · refine v_aload_n dX13_pair_21 rfl 1 rfl ?_
    refine v_iload_n dX13_pair_22 rfl 3 rfl ?_
    refine v_putf 60 (fs' := _) (ci := 11) (C := RX13) (T := TX13) (N := 71) (ty := .int) rfl iwX13_pair_X13 tyX13 tyX13_ok nmX13 (Nat.le_of_ble_eq_true rfl) (by decide +kernel) rfl rfl dX13_pair_23 rfl rfl (by repeat (first | with_reducible assumption | (with_reducible refine sv_us.trans ?_; exact rfl) | with_reducible refine (sv_un (by omega)).trans ?_)) (by first | omega | (simp only [List.length_set]; omega)) rfl ?_
    refine v_aload_n dX13_pair_26 rfl 1 rfl ?_
    refine v_iload dX13_pair_27 0 rfl ?_
    refine v_putf 61 (fs' := _) (ci := 11) (C := RX13) (T := TX13) (N := 71) (ty := .int) rfl iwX13_pair_X13 tyX13 tyX13_ok nmX13 (Nat.le_of_ble_eq_true rfl) (by decide +kernel) rfl rfl dX13_pair_29 rfl rfl (by repeat (first | with_reducible assumption | (with_reducible refine sv_us.trans ?_; exact rfl) | with_reducible refine (sv_un (by omega)).trans ?_)) (by first | omega | (simp only [List.length_set]; omega)) rfl ?_
    refine v_aload_n dX13_pair_32 rfl 1 rfl ?_
    refine v_aload_n dX13_pair_33 rfl 1 rfl ?_
    refine v_iload_n dX13_pair_34 rfl 2 rfl ?_
    refine v_iload_n dX13_pair_35 rfl 3 rfl ?_
    refine v_iload dX13_pair_36 0 rfl ?_
    refine v_callVq (M' := mX13_cellOn) (n := 3) (As := [_, _, _]) (ci := 11) (r := (RX13, TX13, 71)) gX13_pair_X13_cellOn rfl (by decide +kernel) ⟨(Nat.le_of_ble_eq_true rfl), (Nat.le_of_ble_eq_true rfl)⟩ rfl rfl dX13_pair_38 rfl ⟨(Nat.le_of_ble_eq_true rfl), (Nat.le_of_ble_eq_true rfl)⟩ (Nat.le_of_ble_eq_true rfl) (by repeat (first | with_reducible assumption | (with_reducible refine sv_us.trans ?_; exact rfl) | with_reducible refine (sv_un (by omega)).trans ?_)) rfl (m_cellOn G _ b nc np pl _ ((fs0.set 60 (.int (nI o))).set 61 (.int (nI (cpx (O.getD o ([], 0)).1 (O.getD u ([], 0)).1)))) (hq0.to (S := [28, 29, 52, 53, 54, 55, 56, 57, 60, 61, 62]) (by rw [List.length_set, List.length_set]; exact hq0.1) ((fsE.rf.st (by decide)).st (by decide)) (by decide)) sv_us O (MO.kp (fun a p1 p2 => (sv_un (by omega)).trans (sv_un (by omega)))) o ho R hm p3 p4 sz ly vo mp X Y (MY.kp (fun a p1 p2 => (sv_un (by omega)).trans (sv_un (by omega)))) ko2 top (cpx (O.getD o ([], 0)).1 (O.getD u ([], 0)).1) cl1) (fun v9 h9 y9 hq => v_pq hq ?_)
    refine v_putf 62 (fs' := _) (ci := 11) (C := RX13) (T := TX13) (N := 71) (ty := .int) rfl iwX13_pair_X13 tyX13 tyX13_ok nmX13 (Nat.le_of_ble_eq_true rfl) (by decide +kernel) rfl rfl dX13_pair_41 rfl rfl (by repeat (first | with_reducible assumption | (with_reducible refine sv_us.trans ?_; exact rfl) | with_reducible refine (sv_un (by omega)).trans ?_)) (by first | omega | (simp only [List.length_set]; omega)) rfl ?_
    refine v_aload_n dX13_pair_44 rfl 1 rfl ?_
    refine v_iconst (v := 0) dX13_pair_45 (by decide) ?_
    refine v_iload_n dX13_pair_46 rfl 3 rfl ?_
    refine v_iload dX13_pair_47 0 rfl ?_
    refine v_callVq (M' := mX13_load) (n := 3) (As := [_, _, _]) (ci := 11) (r := (RX13, TX13, 71)) gX13_pair_X13_load rfl (by decide +kernel) ⟨(Nat.le_of_ble_eq_true rfl), (Nat.le_of_ble_eq_true rfl)⟩ rfl rfl dX13_pair_49 rfl ⟨(Nat.le_of_ble_eq_true rfl), (Nat.le_of_ble_eq_true rfl)⟩ (Nat.le_of_ble_eq_true rfl) (by repeat (first | with_reducible assumption | (with_reducible refine sv_us.trans ?_; exact rfl) | with_reducible refine (sv_un (by omega)).trans ?_)) rfl (m_loadL G _ b nc np pl R hm p3 p4 sz ly vo mp X Y _ (((fs0.set 60 (.int (nI o))).set 61 (.int (nI (cpx (O.getD o ([], 0)).1 (O.getD u ([], 0)).1)))).set 62 (.int (nI (mcl p4 top (O.getD o ([], 0)).1 (cpx (O.getD o ([], 0)).1 (O.getD u ([], 0)).1))))) (hq0.to (S := [28, 29, 52, 53, 54, 55, 56, 57, 60, 61, 62]) (by rw [List.length_set, List.length_set, List.length_set]; exact hq0.1) (((fsE.rf.st (by decide)).st (by decide)).st (by decide)) (by decide)) (MY.kp (fun a p1 p2 => (sv_un (by omega)).trans ((sv_un (by omega)).trans (sv_un (by omega))))) O (MO.kp (fun a p1 p2 => (sv_un (by omega)).trans ((sv_un (by omega)).trans (sv_un (by omega))))) o ho ko1 ko2 (cpx (O.getD o ([], 0)).1 (O.getD u ([], 0)).1) cl1 0 (by decide) (prN sz (O.getD o ([], 0)) (O.getD u ([], 0))) (prP (O.getD o ([], 0)) (O.getD u ([], 0))) (prC mp sz X Y (O.getD o ([], 0)) (O.getD u ([], 0)) (cpx (O.getD o ([], 0)).1 (O.getD u ([], 0)).1)) ((LD.kp (fun a p1 p2 => (sv_un (by omega)).trans ((sv_un (by omega)).trans (sv_un (by omega))))).z) (fun w hw => absurd hw (Nat.not_lt_zero w)) rfl rfl rfl sv_us ko3 (ko4 _ cl1)) (fun v9 h1 z1 hq9 => ?_)
    obtain ⟨rfl, rfl, ⟨fs1, u1, u2, u3⟩, L1, u4⟩ := hq9
    refine v_aload_n dX13_pair_52 rfl 1 rfl ?_
    refine v_iconst (v := 1) dX13_pair_53 (by decide) ?_
    refine v_iload_n dX13_pair_54 rfl 4 rfl ?_
    refine v_iload dX13_pair_55 0 rfl ?_
    refine v_callVq (M' := mX13_load) (n := 3) (As := [_, _, _]) (ci := 11) (r := (RX13, TX13, 71)) gX13_pair_X13_load rfl (by decide +kernel) ⟨(Nat.le_of_ble_eq_true rfl), (Nat.le_of_ble_eq_true rfl)⟩ rfl rfl dX13_pair_57 rfl ⟨(Nat.le_of_ble_eq_true rfl), (Nat.le_of_ble_eq_true rfl)⟩ (Nat.le_of_ble_eq_true rfl) (by repeat (first | with_reducible assumption | (with_reducible refine sv_us.trans ?_; exact rfl) | with_reducible refine (sv_un (by omega)).trans ?_)) rfl (m_loadL G _ b nc np pl R hm p3 p4 sz ly vo mp X Y h1 fs1 (hq0.to u2 (A1.tr (u3.up (by decide))) (by decide)) (MY.kp (fun a p1 p2 => (u4 a (by omega) (by omega)).trans ((sv_un (by omega)).trans ((sv_un (by omega)).trans (sv_un (by omega)))))) O (MO.kp (fun a p1 p2 => (u4 a (by omega) (by omega)).trans ((sv_un (by omega)).trans ((sv_un (by omega)).trans (sv_un (by omega)))))) u hu ku1 ku2 (cpx (O.getD o ([], 0)).1 (O.getD u ([], 0)).1) cl2 1 (by decide) (prN sz (O.getD o ([], 0)) (O.getD u ([], 0))) (prP (O.getD o ([], 0)) (O.getD u ([], 0))) (prC mp sz X Y (O.getD o ([], 0)) (O.getD u ([], 0)) (cpx (O.getD o ([], 0)).1 (O.getD u ([], 0)).1)) L1 (fun w hw => (by have e9 : w = 0 := (by omega); subst e9; exact ko5)) rfl rfl rfl u1 ku3 (ku4 _ cl2)) (fun v9 h2 z2 hq9 => ?_)
    obtain ⟨rfl, rfl, ⟨fs2, v1, v2, v3⟩, L2, v4⟩ := hq9
    have A2 := (u3.up (T := [28, 29, 52, 53, 54, 55, 56, 57, 60, 61, 62]) (by decide)).tr (v3.up (by decide))
    have A3 := A1.tr A2
    have B2 : ∀ a, ¬ (b + 249 ≤ a ∧ a < b + 258) → a ≠ b + 220 → h2 a = hb a := fun a p1 p2 => (v4 a p1 p2).trans ((u4 a p1 p2).trans ((sv_un p2).trans ((sv_un p2).trans (sv_un p2))))
    have K28 : fs2[28]? = fs0[28]? := (v3 28 (by decide)).trans ((u3 28 (by decide)).trans ((List.getElem?_set_ne (by decide)).trans ((List.getElem?_set_ne (by decide)).trans (List.getElem?_set_ne (by decide)))))
    have K29 : fs2[29]? = fs0[29]? := (v3 29 (by decide)).trans ((u3 29 (by decide)).trans ((List.getElem?_set_ne (by decide)).trans ((List.getElem?_set_ne (by decide)).trans (List.getElem?_set_ne (by decide)))))
    have K60 : fs2[60]? = some (.int (nI o)) := (v3 60 (by decide)).trans ((u3 60 (by decide)).trans ((List.getElem?_set_ne (by decide)).trans ((List.getElem?_set_ne (by decide)).trans (sv_ls (by omega)))))
    have K61 : fs2[61]? = some (.int (nI (cpx (O.getD o ([], 0)).1 (O.getD u ([], 0)).1))) := (v3 61 (by decide)).trans ((u3 61 (by decide)).trans ((List.getElem?_set_ne (by decide)).trans (sv_ls (by rw [List.length_set]; omega))))
    have K62 : fs2[62]? = some (.int (nI (mcl p4 top (O.getD o ([], 0)).1 (cpx (O.getD o ([], 0)).1 (O.getD u ([], 0)).1)))) := (v3 62 (by decide)).trans ((u3 62 (by decide)).trans (sv_ls (by rw [List.length_set, List.length_set]; omega)))
    refine v_aload_n dX13_pair_60 rfl 1 rfl ?_
    refine v_callVq (M' := mX13_both) (n := 0) (As := []) (ci := 11) (r := (RX13, TX13, 71)) gX13_pair_X13_both rfl (by decide +kernel) ⟨(Nat.le_of_ble_eq_true rfl), (Nat.le_of_ble_eq_true rfl)⟩ rfl rfl dX13_pair_61 rfl ⟨(Nat.le_of_ble_eq_true rfl), (Nat.le_of_ble_eq_true rfl)⟩ (Nat.le_of_ble_eq_true rfl) (by repeat (first | with_reducible assumption | (with_reducible refine sv_us.trans ?_; exact rfl) | with_reducible refine (sv_un (by omega)).trans ?_)) rfl (m_both G _ b nc np pl R hm p3 p4 sz ly vo mp X Y h2 fs2 (hq0.to v2 A3 (by decide)) (MY.kp (fun a p1 p2 => B2 a (by omega) (by omega))) O (MO.kp (fun a p1 p2 => B2 a (by omega) (by omega))) o ho ko2 (cpx (O.getD o ([], 0)).1 (O.getD u ([], 0)).1) cl1 K60 K61 (mcl p4 top (O.getD o ([], 0)).1 (cpx (O.getD o ([], 0)).1 (O.getD u ([], 0)).1)) hmc K62 (ko6 (cpx (O.getD o ([], 0)).1 (O.getD u ([], 0)).1)) ri kd l1 l2 x3 x4 x5 x6 (RU.kp (fun a p1 p2 => B2 a (by omega) (by omega))) ((A3 58 (by decide)).trans h58) hen (prN sz (O.getD o ([], 0)) (O.getD u ([], 0))) (prP (O.getD o ([], 0)) (O.getD u ([], 0))) (prC mp sz X Y (O.getD o ([], 0)) (O.getD u ([], 0)) (cpx (O.getD o ([], 0)).1 (O.getD u ([], 0)).1)) L2 LKK ko1 ku1 v1 E0 (T.kp (B2 _ (by omega) (by omega)) K28 K29)) (fun v9 h3 z3 hq9 => ?_)
    obtain ⟨rfl, rfl, fs3, w1, w2, w3, w4, w5⟩ := hq9
    exact v_ret rfl dX13_pair_64 (Nat.le_of_ble_eq_true rfl) (Nat.le_of_ble_eq_true rfl) ⟨rfl, rfl, fs3, w1, w2, A3.tr (w3.up (by decide)), fun a p1 p2 p3_ => (w4 a p2 p3_).trans (B2 a p1 p2), (L2.kp (fun a p1 p2 => w4 a (by omega) (by omega))).z, by rw [show pQ fl kd x3 x4 x5 x6 p4 vo mp sz X Y top (O.getD o ([], 0)) (O.getD u ([], 0)) = _ from if_neg (fun e9 => by first | exact c_12 e9.1 | exact absurd c_17 (nI_ge (a := 0) e9.2 (by omega)))]; exact w5⟩
  · refine v_iload dX13_pair_15 0 rfl ?_
    refine v_if_le (tgt := 21) dX13_pair_17 (by decide) (fun c_17 => ?_) (fun c_17 => ?_)
    · refine v_aload_n dX13_pair_21 rfl 1 rfl ?_
      refine v_iload_n dX13_pair_22 rfl 3 rfl ?_
      refine v_putf 60 (fs' := _) (ci := 11) (C := RX13) (T := TX13) (N := 71) (ty := .int) rfl iwX13_pair_X13 tyX13 tyX13_ok nmX13 (Nat.le_of_ble_eq_true rfl) (by decide +kernel) rfl rfl dX13_pair_23 rfl rfl (by repeat (first | with_reducible assumption | (with_reducible refine sv_us.trans ?_; exact rfl) | with_reducible refine (sv_un (by omega)).trans ?_)) (by first | omega | (simp only [List.length_set]; omega)) rfl ?_
      refine v_aload_n dX13_pair_26 rfl 1 rfl ?_
      refine v_iload dX13_pair_27 0 rfl ?_
      refine v_putf 61 (fs' := _) (ci := 11) (C := RX13) (T := TX13) (N := 71) (ty := .int) rfl iwX13_pair_X13 tyX13 tyX13_ok nmX13 (Nat.le_of_ble_eq_true rfl) (by decide +kernel) rfl rfl dX13_pair_29 rfl rfl (by repeat (first | with_reducible assumption | (with_reducible refine sv_us.trans ?_; exact rfl) | with_reducible refine (sv_un (by omega)).trans ?_)) (by first | omega | (simp only [List.length_set]; omega)) rfl ?_
      refine v_aload_n dX13_pair_32 rfl 1 rfl ?_
      refine v_aload_n dX13_pair_33 rfl 1 rfl ?_
      refine v_iload_n dX13_pair_34 rfl 2 rfl ?_
      refine v_iload_n dX13_pair_35 rfl 3 rfl ?_
      refine v_iload dX13_pair_36 0 rfl ?_
      refine v_callVq (M' := mX13_cellOn) (n := 3) (As := [_, _, _]) (ci := 11) (r := (RX13, TX13, 71)) gX13_pair_X13_cellOn rfl (by decide +kernel) ⟨(Nat.le_of_ble_eq_true rfl), (Nat.le_of_ble_eq_true rfl)⟩ rfl rfl dX13_pair_38 rfl ⟨(Nat.le_of_ble_eq_true rfl), (Nat.le_of_ble_eq_true rfl)⟩ (Nat.le_of_ble_eq_true rfl) (by repeat (first | with_reducible assumption | (with_reducible refine sv_us.trans ?_; exact rfl) | with_reducible refine (sv_un (by omega)).trans ?_)) rfl (m_cellOn G _ b nc np pl _ ((fs0.set 60 (.int (nI o))).set 61 (.int (nI (cpx (O.getD o ([], 0)).1 (O.getD u ([], 0)).1)))) (hq0.to (S := [28, 29, 52, 53, 54, 55, 56, 57, 60, 61, 62]) (by rw [List.length_set, List.length_set]; exact hq0.1) ((fsE.rf.st (by decide)).st (by decide)) (by decide)) sv_us O (MO.kp (fun a p1 p2 => (sv_un (by omega)).trans (sv_un (by omega)))) o ho R hm p3 p4 sz ly vo mp X Y (MY.kp (fun a p1 p2 => (sv_un (by omega)).trans (sv_un (by omega)))) ko2 top (cpx (O.getD o ([], 0)).1 (O.getD u ([], 0)).1) cl1) (fun v9 h9 y9 hq => v_pq hq ?_)
      refine v_putf 62 (fs' := _) (ci := 11) (C := RX13) (T := TX13) (N := 71) (ty := .int) rfl iwX13_pair_X13 tyX13 tyX13_ok nmX13 (Nat.le_of_ble_eq_true rfl) (by decide +kernel) rfl rfl dX13_pair_41 rfl rfl (by repeat (first | with_reducible assumption | (with_reducible refine sv_us.trans ?_; exact rfl) | with_reducible refine (sv_un (by omega)).trans ?_)) (by first | omega | (simp only [List.length_set]; omega)) rfl ?_
      refine v_aload_n dX13_pair_44 rfl 1 rfl ?_
      refine v_iconst (v := 0) dX13_pair_45 (by decide) ?_
      refine v_iload_n dX13_pair_46 rfl 3 rfl ?_
      refine v_iload dX13_pair_47 0 rfl ?_
      refine v_callVq (M' := mX13_load) (n := 3) (As := [_, _, _]) (ci := 11) (r := (RX13, TX13, 71)) gX13_pair_X13_load rfl (by decide +kernel) ⟨(Nat.le_of_ble_eq_true rfl), (Nat.le_of_ble_eq_true rfl)⟩ rfl rfl dX13_pair_49 rfl ⟨(Nat.le_of_ble_eq_true rfl), (Nat.le_of_ble_eq_true rfl)⟩ (Nat.le_of_ble_eq_true rfl) (by repeat (first | with_reducible assumption | (with_reducible refine sv_us.trans ?_; exact rfl) | with_reducible refine (sv_un (by omega)).trans ?_)) rfl (m_loadL G _ b nc np pl R hm p3 p4 sz ly vo mp X Y _ (((fs0.set 60 (.int (nI o))).set 61 (.int (nI (cpx (O.getD o ([], 0)).1 (O.getD u ([], 0)).1)))).set 62 (.int (nI (mcl p4 top (O.getD o ([], 0)).1 (cpx (O.getD o ([], 0)).1 (O.getD u ([], 0)).1))))) (hq0.to (S := [28, 29, 52, 53, 54, 55, 56, 57, 60, 61, 62]) (by rw [List.length_set, List.length_set, List.length_set]; exact hq0.1) (((fsE.rf.st (by decide)).st (by decide)).st (by decide)) (by decide)) (MY.kp (fun a p1 p2 => (sv_un (by omega)).trans ((sv_un (by omega)).trans (sv_un (by omega))))) O (MO.kp (fun a p1 p2 => (sv_un (by omega)).trans ((sv_un (by omega)).trans (sv_un (by omega))))) o ho ko1 ko2 (cpx (O.getD o ([], 0)).1 (O.getD u ([], 0)).1) cl1 0 (by decide) (prN sz (O.getD o ([], 0)) (O.getD u ([], 0))) (prP (O.getD o ([], 0)) (O.getD u ([], 0))) (prC mp sz X Y (O.getD o ([], 0)) (O.getD u ([], 0)) (cpx (O.getD o ([], 0)).1 (O.getD u ([], 0)).1)) ((LD.kp (fun a p1 p2 => (sv_un (by omega)).trans ((sv_un (by omega)).trans (sv_un (by omega))))).z) (fun w hw => absurd hw (Nat.not_lt_zero w)) rfl rfl rfl sv_us ko3 (ko4 _ cl1)) (fun v9 h1 z1 hq9 => ?_)
      obtain ⟨rfl, rfl, ⟨fs1, u1, u2, u3⟩, L1, u4⟩ := hq9
      refine v_aload_n dX13_pair_52 rfl 1 rfl ?_
      refine v_iconst (v := 1) dX13_pair_53 (by decide) ?_
      refine v_iload_n dX13_pair_54 rfl 4 rfl ?_
      refine v_iload dX13_pair_55 0 rfl ?_
      refine v_callVq (M' := mX13_load) (n := 3) (As := [_, _, _]) (ci := 11) (r := (RX13, TX13, 71)) gX13_pair_X13_load rfl (by decide +kernel) ⟨(Nat.le_of_ble_eq_true rfl), (Nat.le_of_ble_eq_true rfl)⟩ rfl rfl dX13_pair_57 rfl ⟨(Nat.le_of_ble_eq_true rfl), (Nat.le_of_ble_eq_true rfl)⟩ (Nat.le_of_ble_eq_true rfl) (by repeat (first | with_reducible assumption | (with_reducible refine sv_us.trans ?_; exact rfl) | with_reducible refine (sv_un (by omega)).trans ?_)) rfl (m_loadL G _ b nc np pl R hm p3 p4 sz ly vo mp X Y h1 fs1 (hq0.to u2 (A1.tr (u3.up (by decide))) (by decide)) (MY.kp (fun a p1 p2 => (u4 a (by omega) (by omega)).trans ((sv_un (by omega)).trans ((sv_un (by omega)).trans (sv_un (by omega)))))) O (MO.kp (fun a p1 p2 => (u4 a (by omega) (by omega)).trans ((sv_un (by omega)).trans ((sv_un (by omega)).trans (sv_un (by omega)))))) u hu ku1 ku2 (cpx (O.getD o ([], 0)).1 (O.getD u ([], 0)).1) cl2 1 (by decide) (prN sz (O.getD o ([], 0)) (O.getD u ([], 0))) (prP (O.getD o ([], 0)) (O.getD u ([], 0))) (prC mp sz X Y (O.getD o ([], 0)) (O.getD u ([], 0)) (cpx (O.getD o ([], 0)).1 (O.getD u ([], 0)).1)) L1 (fun w hw => (by have e9 : w = 0 := (by omega); subst e9; exact ko5)) rfl rfl rfl u1 ku3 (ku4 _ cl2)) (fun v9 h2 z2 hq9 => ?_)
      obtain ⟨rfl, rfl, ⟨fs2, v1, v2, v3⟩, L2, v4⟩ := hq9
      have A2 := (u3.up (T := [28, 29, 52, 53, 54, 55, 56, 57, 60, 61, 62]) (by decide)).tr (v3.up (by decide))
      have A3 := A1.tr A2
      have B2 : ∀ a, ¬ (b + 249 ≤ a ∧ a < b + 258) → a ≠ b + 220 → h2 a = hb a := fun a p1 p2 => (v4 a p1 p2).trans ((u4 a p1 p2).trans ((sv_un p2).trans ((sv_un p2).trans (sv_un p2))))
      have K28 : fs2[28]? = fs0[28]? := (v3 28 (by decide)).trans ((u3 28 (by decide)).trans ((List.getElem?_set_ne (by decide)).trans ((List.getElem?_set_ne (by decide)).trans (List.getElem?_set_ne (by decide)))))
      have K29 : fs2[29]? = fs0[29]? := (v3 29 (by decide)).trans ((u3 29 (by decide)).trans ((List.getElem?_set_ne (by decide)).trans ((List.getElem?_set_ne (by decide)).trans (List.getElem?_set_ne (by decide)))))
      have K60 : fs2[60]? = some (.int (nI o)) := (v3 60 (by decide)).trans ((u3 60 (by decide)).trans ((List.getElem?_set_ne (by decide)).trans ((List.getElem?_set_ne (by decide)).trans (sv_ls (by omega)))))
      have K61 : fs2[61]? = some (.int (nI (cpx (O.getD o ([], 0)).1 (O.getD u ([], 0)).1))) := (v3 61 (by decide)).trans ((u3 61 (by decide)).trans ((List.getElem?_set_ne (by decide)).trans (sv_ls (by rw [List.length_set]; omega))))
      have K62 : fs2[62]? = some (.int (nI (mcl p4 top (O.getD o ([], 0)).1 (cpx (O.getD o ([], 0)).1 (O.getD u ([], 0)).1)))) := (v3 62 (by decide)).trans ((u3 62 (by decide)).trans (sv_ls (by rw [List.length_set, List.length_set]; omega)))
      refine v_aload_n dX13_pair_60 rfl 1 rfl ?_
      refine v_callVq (M' := mX13_both) (n := 0) (As := []) (ci := 11) (r := (RX13, TX13, 71)) gX13_pair_X13_both rfl (by decide +kernel) ⟨(Nat.le_of_ble_eq_true rfl), (Nat.le_of_ble_eq_true rfl)⟩ rfl rfl dX13_pair_61 rfl ⟨(Nat.le_of_ble_eq_true rfl), (Nat.le_of_ble_eq_true rfl)⟩ (Nat.le_of_ble_eq_true rfl) (by repeat (first | with_reducible assumption | (with_reducible refine sv_us.trans ?_; exact rfl) | with_reducible refine (sv_un (by omega)).trans ?_)) rfl (m_both G _ b nc np pl R hm p3 p4 sz ly vo mp X Y h2 fs2 (hq0.to v2 A3 (by decide)) (MY.kp (fun a p1 p2 => B2 a (by omega) (by omega))) O (MO.kp (fun a p1 p2 => B2 a (by omega) (by omega))) o ho ko2 (cpx (O.getD o ([], 0)).1 (O.getD u ([], 0)).1) cl1 K60 K61 (mcl p4 top (O.getD o ([], 0)).1 (cpx (O.getD o ([], 0)).1 (O.getD u ([], 0)).1)) hmc K62 (ko6 (cpx (O.getD o ([], 0)).1 (O.getD u ([], 0)).1)) ri kd l1 l2 x3 x4 x5 x6 (RU.kp (fun a p1 p2 => B2 a (by omega) (by omega))) ((A3 58 (by decide)).trans h58) hen (prN sz (O.getD o ([], 0)) (O.getD u ([], 0))) (prP (O.getD o ([], 0)) (O.getD u ([], 0))) (prC mp sz X Y (O.getD o ([], 0)) (O.getD u ([], 0)) (cpx (O.getD o ([], 0)).1 (O.getD u ([], 0)).1)) L2 LKK ko1 ku1 v1 E0 (T.kp (B2 _ (by omega) (by omega)) K28 K29)) (fun v9 h3 z3 hq9 => ?_)
      obtain ⟨rfl, rfl, fs3, w1, w2, w3, w4, w5⟩ := hq9
      exact v_ret rfl dX13_pair_64 (Nat.le_of_ble_eq_true rfl) (Nat.le_of_ble_eq_true rfl) ⟨rfl, rfl, fs3, w1, w2, A3.tr (w3.up (by decide)), fun a p1 p2 p3_ => (w4 a p2 p3_).trans (B2 a p1 p2), (L2.kp (fun a p1 p2 => w4 a (by omega) (by omega))).z, by rw [show pQ fl kd x3 x4 x5 x6 p4 vo mp sz X Y top (O.getD o ([], 0)) (O.getD u ([], 0)) = _ from if_neg (fun e9 => by first | exact c_12 e9.1 | exact absurd c_17 (nI_ge (a := 0) e9.2 (by omega)))]; exact w5⟩
    · exact v_ret rfl dX13_pair_20 (Nat.le_of_ble_eq_true rfl) (Nat.le_of_ble_eq_true rfl) ⟨rfl, rfl, fs0, hm9, hq0.1, fsE.rf, fun _ _ _ _ => rfl, LD, by rw [show pQ fl kd x3 x4 x5 x6 p4 vo mp sz X Y top (O.getD o ([], 0)) (O.getD u ([], 0)) = [] from if_pos ⟨c_12, Nat.pos_of_ne_zero (fun e9 => c_17 (by rw [e9]; decide))⟩, List.append_nil]; exact T⟩

end GU
