def arS (ly ar : Nat → Int32) (l1 : Int32) (S : List (List Nat × Nat)) : Nat → Int | 0 => 0 | n + 1 => arS ly ar l1 S n + (if ly (S.getD n ([], 0)).2 = l1 then (ar (S.getD n ([], 0)).2).toInt else 0)
def cnS (ly : Nat → Int32) (l1 : Int32) (S : List (List Nat × Nat)) : Nat → Nat | 0 => 0 | n + 1 => cnS ly l1 S n + (if ly (S.getD n ([], 0)).2 = l1 then 1 else 0)
def mW (kd : Nat) (A : Int) (n : Nat) (q : Int) : Int64 := if kd = 5 then (if 0 < q then jN A * 100 / jN q else 0) else jN (n : Int)
def jWh (kd : Nat) (x3 : Int32) (c A : Int) (n : Nat) (s : Nat → Int) : List (List Int64) := if (mW kd A n ((s 2 - s 0) * (s 3 - s 1))).toInt < x3.toInt then [rwI (s 0) (s 1) (s 2) (s 3) (-1) (-1) (mW kd A n ((s 2 - s 0) * (s 3 - s 1))).toInt c] else []
theorem mul_b {a c : Int} (h1 : -400000 ≤ a ∧ a ≤ 400000) (h2 : -400000 ≤ c ∧ c ≤ 400000) : -160000000000 ≤ a * c ∧ a * c ≤ 160000000000 := by
  have e := Int.natAbs_mul a c
  have l := Nat.mul_le_mul (show a.natAbs ≤ 400000 by omega) (show c.natAbs ≤ 400000 by omega)
  omega
theorem cnS_le (ly : Nat → Int32) (l1 : Int32) (S : List (List Nat × Nat)) : ∀ n, cnS ly l1 S n ≤ n := by
  intro n
  induction n with
  | zero => exact Nat.le_refl 0
  | succ n ih =>
    show cnS ly l1 S n + _ ≤ n + 1
    split <;> omega
theorem sn_.frame9 {G : sv_G} {b : Nat} {h h2 : sv_h} (N : sn_ G b h) (fr : ∀ a, b + 35 ≤ a → a < b + 164 → a ≠ b + 41 → h2 a = h a) (f41 : ∃ f, ab_I G h2 (b + 41) 4 f) : sn_ G b h2 := by
  obtain ⟨⟨n, n1⟩, ⟨f1, n2⟩, ⟨f2, n3⟩, ⟨f3, n4⟩, ⟨f4, n5⟩, ⟨f5, n6⟩, ⟨f6, n7⟩, ⟨f7, n8, n8a⟩, ⟨f8, n9⟩, ⟨f9, nA⟩, ⟨fA, nB⟩, ⟨g1, m1, m2⟩, ⟨g2, m3, m4⟩, m5⟩ := N
  refine ⟨⟨n, (fr _ (by omega) (by omega) (by omega)).trans n1⟩, ⟨f1, (fr _ (by omega) (by omega) (by omega)).trans n2⟩, ⟨f2, (fr _ (by omega) (by omega) (by omega)).trans n3⟩, ⟨f3, (fr _ (by omega) (by omega) (by omega)).trans n4⟩, f41, ⟨f5, (fr _ (by omega) (by omega) (by omega)).trans n6⟩, ⟨f6, (fr _ (by omega) (by omega) (by omega)).trans n7⟩, ⟨f7, (fr _ (by omega) (by omega) (by omega)).trans n8, n8a⟩, ⟨f8, (fr _ (by omega) (by omega) (by omega)).trans n9⟩, ⟨f9, (fr _ (by omega) (by omega) (by omega)).trans nA⟩, ⟨fA, (fr _ (by omega) (by omega) (by omega)).trans nB⟩, ⟨g1, (fr _ (by omega) (by omega) (by omega)).trans m1, fun j hj => ⟨(m2 j hj).1, ?_⟩⟩, ⟨g2, (fr _ (by omega) (by omega) (by omega)).trans m3, fun j hj => ⟨(m4 j hj).1, ?_⟩⟩, (fr _ (by omega) (by omega) (by omega)).trans m5⟩
  · obtain ⟨_, x0, x1, x2, x3, e⟩ := m2 j hj
    exact ⟨x0, x1, x2, x3, (fr _ (by omega) (by omega) (by omega)).trans e⟩
  · obtain ⟨_, x0, x1, x2, x3, e⟩ := m4 j hj
    exact ⟨x0, x1, x2, x3, (fr _ (by omega) (by omega) (by omega)).trans e⟩
set_option maxHeartbeats 4000000 in
set_option maxRecDepth 100000 in
theorem l_whL (G : sv_G) (Qr : Option Value → sv_h → Nat → Prop) (hb : sv_h) (z b : Nat) (k : Int32) (nc np pl : Nat) (R : Nat → Bool) (hm pa sz : Nat → Nat) (ly vo ar : Nat → Int32) (X Y : Nat → Nat → Int) (fc : Nat → Nat → Nat) (oc : Nat → Nat → Option Nat) (mp : Nat → mvT) (w3 : Bool) (T : List Nat × Nat → Nat → List (Int × Int × Int)) (S : List (List Nat × Nat)) (q t : Nat) (n0 : Int64) (kd : Nat) (l1 l2 x3 x4 x5 x6 : Int32) (K : ck_ G w3 b k nc np pl R hm pa sz ly vo ar X Y fc oc mp T S q t n0 kd l1 l2 x3 x4 x5 x6 hb) (cl : Int32) (h : sv_h) (fr : ∀ a, ¬ (t ≤ a ∧ a < t + 4) → h a = hb a) (hk : V G mX1_judgeWhole (sv_MQ G mX1_judgeWhole Qr) 87 [(4, .int (nI (cnS ly l1 S S.length))), (2, .long (jN (arS ly ar l1 S S.length))), (1, .int cl), (0, .ref (b + 32))] [] h z 0 0) : ∀ (e i : Nat), i + e = S.length → V G mX1_judgeWhole (sv_MQ G mX1_judgeWhole Qr) 28 [(5, .int (nI i)), (4, .int (nI (cnS ly l1 S i))), (2, .long (jN (arS ly ar l1 S i))), (1, .int cl), (0, .ref (b + 32))] [] h z 0 0 := by
  intro e
  induction e with
  | zero =>
    intro i hie
    obtain ⟨Z, ⟨⟨fb, fcx, fcy, k1, k2, k3, k4⟩, ⟨fs9, fa, fr9, ft, k5, k6, k7, k8, k9, kA, kB⟩, ⟨fsp, kC⟩, _⟩, kD, kE, kF, kG, kH, kI⟩ := id K
    obtain ⟨z0, z1, ⟨fs, z2, z3⟩, ⟨fb_, z4, z5⟩, ⟨fl, z6, z7⟩, z8, z9, ⟨fq, zA, zB⟩, zC, zD, zE, zF⟩ := id Z
    have w1 := (fr (b + 35) (by omega)).trans z1
    have w2 : ab_I G h (b + 37) 100 fs := (fr _ (by omega)).trans z2
    have w4 : ab_I G h (b + 38) 100 fb_ := (fr _ (by omega)).trans z4
    have w6 : ab_Q G h (b + 39) 3 100 fl := (fr _ (by omega)).trans z6
    have w9 := (fr (b + 1) (by omega)).trans z9
    have wA : ab_Q G h (b + 2) 4 64 fq := (fr _ (by omega)).trans zA
    have wB : ab_I G h (b + 40) 400 fb := (fr _ (by omega)).trans k1
    have wC : ab_I G h (b + 44) 401 fs9 := (fr _ (by omega)).trans k5
    have wD : ab_I G h (b + 45) 1600 fa := (fr _ (by omega)).trans k6
    have wE : ab_I G h (b + 46) 1600 fr9 := (fr _ (by omega)).trans k7
    have wF : ab_I G h (b + 47) 1600 ft := (fr _ (by omega)).trans k8
    have wG := (fr (b + 32) (by omega)).trans kD
    have wH := (fr q (by omega)).trans kE
    have e9 : i = S.length := by omega
    subst e9
    refine v_iload dX1_judgeWhole_28 0 rfl ?_
    refine v_aload_n dX1_judgeWhole_30 rfl 4 rfl ?_
    refine v_getf 1 (ci := 0) (C := RX1) (T := TX1) (N := 6) rfl iwX1_judgeWhole_X1 (Nat.le_of_ble_eq_true rfl) (by decide +kernel) dX1_judgeWhole_31 (by first | with_reducible assumption) rfl ?_
    refine v_getf 2 (ci := 6) (C := RX8) (T := TX8) (N := 14) rfl iwX1_judgeWhole_X8 (Nat.le_of_ble_eq_true rfl) (by decide +kernel) dX1_judgeWhole_34 (by first | with_reducible assumption) rfl ?_
    refine v_icmp_ge (tgt := 87) dX1_judgeWhole_37 (by decide) (fun c_37 => ?_) (fun c_37 => ?_)
    · refine v_sub (L' := [(4, _), (2, _), (1, _), (0, _)]) [1, 2, 3, 4] rfl ?_
      exact hk
    · exact absurd (nI_le (Nat.le_refl S.length) (by omega)) c_37
  | succ e ih =>
    intro i hie
    obtain ⟨Z, ⟨⟨fb, fcx, fcy, k1, k2, k3, k4⟩, ⟨fs9, fa, fr9, ft, k5, k6, k7, k8, k9, kA, kB⟩, ⟨fsp, kC⟩, _⟩, kD, kE, kF, kG, kH, kI⟩ := id K
    obtain ⟨z0, z1, ⟨fs, z2, z3⟩, ⟨fb_, z4, z5⟩, ⟨fl, z6, z7⟩, z8, z9, ⟨fq, zA, zB⟩, zC, zD, zE, zF⟩ := id Z
    have w1 := (fr (b + 35) (by omega)).trans z1
    have w2 : ab_I G h (b + 37) 100 fs := (fr _ (by omega)).trans z2
    have w4 : ab_I G h (b + 38) 100 fb_ := (fr _ (by omega)).trans z4
    have w6 : ab_Q G h (b + 39) 3 100 fl := (fr _ (by omega)).trans z6
    have w9 := (fr (b + 1) (by omega)).trans z9
    have wA : ab_Q G h (b + 2) 4 64 fq := (fr _ (by omega)).trans zA
    have wB : ab_I G h (b + 40) 400 fb := (fr _ (by omega)).trans k1
    have wC : ab_I G h (b + 44) 401 fs9 := (fr _ (by omega)).trans k5
    have wD : ab_I G h (b + 45) 1600 fa := (fr _ (by omega)).trans k6
    have wE : ab_I G h (b + 46) 1600 fr9 := (fr _ (by omega)).trans k7
    have wF : ab_I G h (b + 47) 1600 ft := (fr _ (by omega)).trans k8
    have wG := (fr (b + 32) (by omega)).trans kD
    have wH := (fr q (by omega)).trans kE
    have hi : i < S.length := by omega
    obtain ⟨c1i, c2i⟩ := zC _ (zE i hi).1
    have p1i := (fr (pa (S.getD i ([], 0)).2) (by omega)).trans c1i
    refine v_iload dX1_judgeWhole_28 0 rfl ?_
    refine v_aload_n dX1_judgeWhole_30 rfl 4 rfl ?_
    refine v_getf 1 (ci := 0) (C := RX1) (T := TX1) (N := 6) rfl iwX1_judgeWhole_X1 (Nat.le_of_ble_eq_true rfl) (by decide +kernel) dX1_judgeWhole_31 (by first | with_reducible assumption) rfl ?_
    refine v_getf 2 (ci := 6) (C := RX8) (T := TX8) (N := 14) rfl iwX1_judgeWhole_X8 (Nat.le_of_ble_eq_true rfl) (by decide +kernel) dX1_judgeWhole_34 (by first | with_reducible assumption) rfl ?_
    refine v_icmp_ge (tgt := 87) dX1_judgeWhole_37 (by decide) (fun c_37 => ?_) (fun c_37 => ?_)
    · exact absurd c_37 (nI_ge hi (by omega))
    · refine v_aload_n dX1_judgeWhole_40 rfl 4 rfl ?_
      refine v_getf 1 (ci := 0) (C := RX1) (T := TX1) (N := 6) rfl iwX1_judgeWhole_X1 (Nat.le_of_ble_eq_true rfl) (by decide +kernel) dX1_judgeWhole_41 (by first | with_reducible assumption) rfl ?_
      refine v_iload dX1_judgeWhole_44 0 rfl ?_
      refine v_callVq (M' := mX8_polygonOf) (n := 1) (As := [_]) (ci := 6) (r := (RX8, TX8, 14)) gX1_judgeWhole_X8_polygonOf rfl (by decide +kernel) ⟨(Nat.le_of_ble_eq_true rfl), (Nat.le_of_ble_eq_true rfl)⟩ rfl rfl dX1_judgeWhole_46 rfl ⟨(Nat.le_of_ble_eq_true rfl), (Nat.le_of_ble_eq_true rfl)⟩ (Nat.le_of_ble_eq_true rfl) (by first | with_reducible assumption) rfl (c_polyK G hb _ b k nc np pl R hm pa sz ly vo ar X Y fc oc mp w3 T S q t n0 kd l1 l2 x3 x4 x5 x6 K h fr i hi) (fun v9 h9 y9 hq => v_pq hq ?_)
      refine v_getf 1 (ci := 3) (C := RX5) (T := TX5) (N := 10) rfl iwX1_judgeWhole_X5 (Nat.le_of_ble_eq_true rfl) (by decide +kernel) dX1_judgeWhole_49 (by first | with_reducible assumption) rfl ?_
      refine v_aload_n dX1_judgeWhole_52 rfl 4 rfl ?_
      refine v_getf 4 (ci := 0) (C := RX1) (T := TX1) (N := 6) rfl iwX1_judgeWhole_X1 (Nat.le_of_ble_eq_true rfl) (by decide +kernel) dX1_judgeWhole_53 (by first | with_reducible assumption) rfl ?_
      refine v_getf 2 (ci := 5) (C := RX7) (T := TX7) (N := 8) rfl iwX1_judgeWhole_X7 (Nat.le_of_ble_eq_true rfl) (by decide +kernel) dX1_judgeWhole_56 (by first | with_reducible assumption) rfl ?_
      refine v_icmp_ne (tgt := 81) dX1_judgeWhole_59 (by decide) (fun c_59 => ?_) (fun c_59 => ?_)
      · refine v_iinc (j := 0) (L' := [(5, _), (4, _), (2, _), (1, _), (0, _)]) (v := nI (i + 1)) dX1_judgeWhole_81 rfl (nI_1 _) (Nat.le_of_ble_eq_true rfl) rfl ?_
        refine v_goto (tgt := 28) dX1_judgeWhole_84 (by decide) ?_
        refine v_sub (L' := [(5, _), (4, _), (2, _), (1, _), (0, _)]) [0, 1, 2, 3, 4] rfl ?_
        have q9 := ih (i + 1) (by omega)
        rw [show arS ly ar l1 S (i + 1) = arS ly ar l1 S i + (if ly (S.getD i ([], 0)).2 = l1 then (ar (S.getD i ([], 0)).2).toInt else 0) from rfl, show cnS ly l1 S (i + 1) = cnS ly l1 S i + (if ly (S.getD i ([], 0)).2 = l1 then 1 else 0) from rfl] at q9
        first
          | (have c9 : ¬ ly (S.getD i ([], 0)).2 = l1 := c_59
             rw [if_neg c9, if_neg c9, Int.add_zero, Nat.add_zero] at q9
             exact q9)
          | (have c9 : ly (S.getD i ([], 0)).2 = l1 := Decidable.of_not_not c_59
             rw [if_pos c9, if_pos c9] at q9
             exact q9)
          | (have c9 : ly (S.getD i ([], 0)).2 = l1 := c_59
             rw [if_pos c9, if_pos c9] at q9
             exact q9)
      · refine v_lload_n dX1_judgeWhole_62 rfl 2 rfl ?_
        refine v_aload_n dX1_judgeWhole_63 rfl 4 rfl ?_
        refine v_getf 1 (ci := 0) (C := RX1) (T := TX1) (N := 6) rfl iwX1_judgeWhole_X1 (Nat.le_of_ble_eq_true rfl) (by decide +kernel) dX1_judgeWhole_64 (by first | with_reducible assumption) rfl ?_
        refine v_iload dX1_judgeWhole_67 0 rfl ?_
        refine v_callVq (M' := mX8_polygonOf) (n := 1) (As := [_]) (ci := 6) (r := (RX8, TX8, 14)) gX1_judgeWhole_X8_polygonOf rfl (by decide +kernel) ⟨(Nat.le_of_ble_eq_true rfl), (Nat.le_of_ble_eq_true rfl)⟩ rfl rfl dX1_judgeWhole_69 rfl ⟨(Nat.le_of_ble_eq_true rfl), (Nat.le_of_ble_eq_true rfl)⟩ (Nat.le_of_ble_eq_true rfl) (by first | with_reducible assumption) rfl (c_polyK G hb _ b k nc np pl R hm pa sz ly vo ar X Y fc oc mp w3 T S q t n0 kd l1 l2 x3 x4 x5 x6 K h fr i hi) (fun v9 h9 y9 hq => v_pq hq ?_)
        refine v_getf 7 (ci := 3) (C := RX5) (T := TX5) (N := 10) rfl iwX1_judgeWhole_X5 (Nat.le_of_ble_eq_true rfl) (by decide +kernel) dX1_judgeWhole_72 (by first | with_reducible assumption) rfl ?_
        refine v_i2l dX1_judgeWhole_75 rfl ?_
        refine v_ladd dX1_judgeWhole_76 ?_
        rw [← jN_i, ← jN_add]
        refine v_lstore_n (L' := [(2, _), (5, _), (4, _), (1, _), (0, _)]) dX1_judgeWhole_77 rfl (Nat.le_of_ble_eq_true rfl) rfl ?_
        refine v_iinc (j := 2) (L' := [(4, _), (2, _), (5, _), (1, _), (0, _)]) (v := nI (cnS ly l1 S i + 1)) dX1_judgeWhole_78 rfl (nI_1 _) (Nat.le_of_ble_eq_true rfl) rfl ?_
        refine v_iinc (j := 2) (L' := [(5, _), (4, _), (2, _), (1, _), (0, _)]) (v := nI (i + 1)) dX1_judgeWhole_81 rfl (nI_1 _) (Nat.le_of_ble_eq_true rfl) rfl ?_
        refine v_goto (tgt := 28) dX1_judgeWhole_84 (by decide) ?_
        refine v_sub (L' := [(5, _), (4, _), (2, _), (1, _), (0, _)]) [0, 1, 2, 3, 4] rfl ?_
        have q9 := ih (i + 1) (by omega)
        rw [show arS ly ar l1 S (i + 1) = arS ly ar l1 S i + (if ly (S.getD i ([], 0)).2 = l1 then (ar (S.getD i ([], 0)).2).toInt else 0) from rfl, show cnS ly l1 S (i + 1) = cnS ly l1 S i + (if ly (S.getD i ([], 0)).2 = l1 then 1 else 0) from rfl] at q9
        first
          | (have c9 : ¬ ly (S.getD i ([], 0)).2 = l1 := c_59
             rw [if_neg c9, if_neg c9, Int.add_zero, Nat.add_zero] at q9
             exact q9)
          | (have c9 : ly (S.getD i ([], 0)).2 = l1 := Decidable.of_not_not c_59
             rw [if_pos c9, if_pos c9] at q9
             exact q9)
          | (have c9 : ly (S.getD i ([], 0)).2 = l1 := c_59
             rw [if_pos c9, if_pos c9] at q9
             exact q9)

set_option maxHeartbeats 4000000 in
set_option maxRecDepth 100000 in
theorem t_wh5 (G : sv_G) (Qr : Option Value → sv_h → Nat → Prop) (hki : sv_ki G) (hb : sv_h) (z b : Nat) (k : Int32) (nc np pl : Nat) (R : Nat → Bool) (hm pa sz : Nat → Nat) (ly vo ar : Nat → Int32) (X Y : Nat → Nat → Int) (fc : Nat → Nat → Nat) (oc : Nat → Nat → Option Nat) (mp : Nat → mvT) (w3 : Bool) (T : List Nat × Nat → Nat → List (Int × Int × Int)) (S : List (List Nat × Nat)) (q t : Nat) (n0 : Int64) (kd : Nat) (l1 l2 x3 x4 x5 x6 : Int32) (K : ck_ G w3 b k nc np pl R hm pa sz ly vo ar X Y fc oc mp T S q t n0 kd l1 l2 x3 x4 x5 x6 hb) (hk9 : kd = 5) (c : Nat) (hc : c < 16) (N1 : sn_ G b hb) (h : sv_h) (fr : ∀ a, ¬ (t ≤ a ∧ a < t + 4) → h a = hb a) (E0 : List (List Int64)) (H : tE G h t (iN (c : Int)) E0) (hk : ∀ h3, tE G h3 t (iN (c : Int)) (E0 ++ jWh kd x3 (c : Int) (arS ly ar l1 S S.length) (cnS ly l1 S S.length) (spn (fun i9 j9 => bxO mp sz X Y (S.getD i9 ([], 0)) j9) S.length)) → sn_ G b h3 → (∀ a, ¬ (b + 35 ≤ a ∧ a < b + 164) → ¬ (t ≤ a ∧ a < t + 4) → h3 a = hb a) → Qr none h3 z) (cl : Int32) : V G mX1_judgeWhole (sv_MQ G mX1_judgeWhole Qr) 87 [(4, .int (nI (cnS ly l1 S S.length))), (2, .long (jN (arS ly ar l1 S S.length))), (1, .int cl), (0, .ref (b + 32))] [] h z 0 0 := by
  obtain ⟨Z, ⟨⟨fb, fcx, fcy, k1, k2, k3, k4⟩, ⟨fs9, fa, fr9, ft, k5, k6, k7, k8, k9, kA, kB⟩, ⟨fsp, kC⟩, _⟩, kD, kE, kF, kG, kH, kI⟩ := id K
  obtain ⟨z0, z1, ⟨fs, z2, z3⟩, ⟨fb_, z4, z5⟩, ⟨fl, z6, z7⟩, z8, z9, ⟨fq, zA, zB⟩, zC, zD, zE, zF⟩ := id Z
  have w1 := (fr (b + 35) (by omega)).trans z1
  have w2 : ab_I G h (b + 37) 100 fs := (fr _ (by omega)).trans z2
  have w4 : ab_I G h (b + 38) 100 fb_ := (fr _ (by omega)).trans z4
  have w6 : ab_Q G h (b + 39) 3 100 fl := (fr _ (by omega)).trans z6
  have w9 := (fr (b + 1) (by omega)).trans z9
  have wA : ab_Q G h (b + 2) 4 64 fq := (fr _ (by omega)).trans zA
  have wB : ab_I G h (b + 40) 400 fb := (fr _ (by omega)).trans k1
  have wC : ab_I G h (b + 44) 401 fs9 := (fr _ (by omega)).trans k5
  have wD : ab_I G h (b + 45) 1600 fa := (fr _ (by omega)).trans k6
  have wE : ab_I G h (b + 46) 1600 fr9 := (fr _ (by omega)).trans k7
  have wF : ab_I G h (b + 47) 1600 ft := (fr _ (by omega)).trans k8
  have wG := (fr (b + 32) (by omega)).trans kD
  have wH := (fr q (by omega)).trans kE
  have w41 : ab_I G h (b + 41) 4 fsp := (fr _ (by omega)).trans kC
  obtain ⟨fst9, ht9⟩ := H.obj
  have hB : ∀ i, i < S.length → ∀ j, -200000 ≤ bxO mp sz X Y (S.getD i ([], 0)) j ∧ bxO mp sz X Y (S.getD i ([], 0)) j ≤ 200000 := fun i hi j => bxk_b (zE i hi).2.2 (by obtain ⟨_, _, _, _, _, _, _, _, _, g4, _⟩ := zD _ (zE i hi).1 (zE i hi).2.1; omega) j
  have sb := spn_b (B := (fun i9 j9 => bxO mp sz X Y (S.getD i9 ([], 0)) j9)) hB S.length (Nat.le_refl _)
  have sb0 := sb 0; have sb1 := sb 1; have sb2 := sb 2; have sb3 := sb 3
  have qb := mul_b (a := (spn (fun i9 j9 => bxO mp sz X Y (S.getD i9 ([], 0)) j9) S.length) 2 - (spn (fun i9 j9 => bxO mp sz X Y (S.getD i9 ([], 0)) j9) S.length) 0) (c := (spn (fun i9 j9 => bxO mp sz X Y (S.getD i9 ([], 0)) j9) S.length) 3 - (spn (fun i9 j9 => bxO mp sz X Y (S.getD i9 ([], 0)) j9) S.length) 1) (by omega) (by omega)
  have cb := cnS_le ly l1 S S.length
  refine v_aload_n dX1_judgeWhole_87 rfl 3 rfl ?_
  refine v_getf 1 (ci := 0) (C := RX1) (T := TX1) (N := 6) rfl iwX1_judgeWhole_X1 (Nat.le_of_ble_eq_true rfl) (by decide +kernel) dX1_judgeWhole_88 (by first | with_reducible assumption) rfl ?_
  refine v_callVq (M' := mX8_spanAll) (n := 0) (As := []) (ci := 6) (r := (RX8, TX8, 14)) gX1_judgeWhole_X8_spanAll rfl (by decide +kernel) ⟨(Nat.le_of_ble_eq_true rfl), (Nat.le_of_ble_eq_true rfl)⟩ rfl rfl dX1_judgeWhole_91 rfl ⟨(Nat.le_of_ble_eq_true rfl), (Nat.le_of_ble_eq_true rfl)⟩ (Nat.le_of_ble_eq_true rfl) (by first | with_reducible assumption) rfl (c_spanAll G _ b S.length (fun i9 j9 => bxO mp sz X Y (S.getD i9 ([], 0)) j9) h w1 fb wB (fun i hi j hj => k4 i hi j hj) hB z0 fsp w41) (fun v h1 y1 hq9 => ?_)
  obtain ⟨rfl, rfl, ⟨fp, p1, p2⟩, p3⟩ := hq9
  have wG1 := (p3 (b + 32) (by omega)).trans wG
  have wH1 := (p3 q (by omega)).trans wH
  have w11 := (p3 (b + 35) (by omega)).trans w1
  have ht1 := (p3 t (by omega)).trans ht9
  have H1 : tE G h1 t (iN (c : Int)) E0 := H.kept (fun a q1 q2 => p3 a (by omega))
  refine v_aload_n dX1_judgeWhole_94 rfl 3 rfl ?_
  refine v_getf 1 (ci := 0) (C := RX1) (T := TX1) (N := 6) rfl iwX1_judgeWhole_X1 (Nat.le_of_ble_eq_true rfl) (by decide +kernel) dX1_judgeWhole_95 (by first | with_reducible assumption) rfl ?_
  refine v_getf 7 (ci := 6) (C := RX8) (T := TX8) (N := 14) rfl iwX1_judgeWhole_X8 (Nat.le_of_ble_eq_true rfl) (by decide +kernel) dX1_judgeWhole_98 (by first | with_reducible assumption) rfl ?_
  refine v_astore (L' := [(5, _), (4, _), (2, _), (1, _), (0, _)]) dX1_judgeWhole_101 (Nat.le_of_ble_eq_true rfl) rfl ?_
  refine v_aload dX1_judgeWhole_103 0 rfl ?_
  refine v_iconst (v := 2) dX1_judgeWhole_105 (by decide) ?_
  refine v_ialdS (v := iN ((spn (fun i9 j9 => bxO mp sz X Y (S.getD i9 ([], 0)) j9) S.length) 2)) dX1_judgeWhole_106 (by first | with_reducible assumption) (show vp_in (nI 2) 4 from vp_in_nI (by omega) (by omega)) (p2 2 (by decide)) ?_
  refine v_aload dX1_judgeWhole_107 0 rfl ?_
  refine v_iconst (v := 0) dX1_judgeWhole_109 (by decide) ?_
  refine v_ialdS (v := iN ((spn (fun i9 j9 => bxO mp sz X Y (S.getD i9 ([], 0)) j9) S.length) 0)) dX1_judgeWhole_110 (by first | with_reducible assumption) (show vp_in (nI 0) 4 from vp_in_nI (by omega) (by omega)) (p2 0 (by decide)) ?_
  refine v_isub dX1_judgeWhole_111 ?_
  rw [← iN_sub]
  refine v_i2l dX1_judgeWhole_112 rfl ?_
  rw [iN_64 (by omega) (by omega)]
  refine v_aload dX1_judgeWhole_113 0 rfl ?_
  refine v_iconst (v := 3) dX1_judgeWhole_115 (by decide) ?_
  refine v_ialdS (v := iN ((spn (fun i9 j9 => bxO mp sz X Y (S.getD i9 ([], 0)) j9) S.length) 3)) dX1_judgeWhole_116 (by first | with_reducible assumption) (show vp_in (nI 3) 4 from vp_in_nI (by omega) (by omega)) (p2 3 (by decide)) ?_
  refine v_aload dX1_judgeWhole_117 0 rfl ?_
  refine v_iconst (v := 1) dX1_judgeWhole_119 (by decide) ?_
  refine v_ialdS (v := iN ((spn (fun i9 j9 => bxO mp sz X Y (S.getD i9 ([], 0)) j9) S.length) 1)) dX1_judgeWhole_120 (by first | with_reducible assumption) (show vp_in (nI 1) 4 from vp_in_nI (by omega) (by omega)) (p2 1 (by decide)) ?_
  refine v_isub dX1_judgeWhole_121 ?_
  rw [← iN_sub]
  refine v_i2l dX1_judgeWhole_122 rfl ?_
  rw [iN_64 (by omega) (by omega)]
  refine v_lmul dX1_judgeWhole_123 ?_
  rw [← jN_mul]
  refine v_lstore (L' := [(6, _), (5, _), (4, _), (2, _), (1, _), (0, _)]) dX1_judgeWhole_124 (Nat.le_of_ble_eq_true rfl) rfl ?_
  refine v_lload dX1_judgeWhole_126 0 rfl ?_
  refine v_lconst (v := 0) dX1_judgeWhole_128 (by decide) ?_
  refine v_lcmp_le (tgt := 144) dX1_judgeWhole_129 dX1_judgeWhole_130 (by decide) (fun c_130 => ?_) (fun c_130 => ?_)
  · refine v_lconst (v := 0) dX1_judgeWhole_144 (by decide) ?_
    refine v_lstore (L' := [(8, _), (6, _), (5, _), (4, _), (2, _), (1, _), (0, _)]) dX1_judgeWhole_145 (Nat.le_of_ble_eq_true rfl) rfl ?_
    refine v_aload_n dX1_judgeWhole_147 rfl 6 rfl ?_
    refine v_getf 4 (ci := 0) (C := RX1) (T := TX1) (N := 6) rfl iwX1_judgeWhole_X1 (Nat.le_of_ble_eq_true rfl) (by decide +kernel) dX1_judgeWhole_148 (by first | with_reducible assumption) rfl ?_
    refine v_getf 1 (ci := 5) (C := RX7) (T := TX7) (N := 8) rfl iwX1_judgeWhole_X7 (Nat.le_of_ble_eq_true rfl) (by decide +kernel) dX1_judgeWhole_151 (by first | with_reducible assumption) rfl ?_
    refine v_getk (i := 5) (nm := "DENSITY") (by decide +kernel) (by decide +kernel) dX1_judgeWhole_154 ?_
    refine v_acmp_ne (rx := some (G.2.2.2.2.1 kd)) (ry := some (G.2.2.2.2.1 5)) (tgt := 165) dX1_judgeWhole_157 (by decide) (fun c_157 => ?_) (fun c_157 => ?_)
    · exact absurd (by rw [hk9]) c_157
    · refine v_lload dX1_judgeWhole_160 0 rfl ?_
      refine v_goto (tgt := 168) dX1_judgeWhole_162 (by decide) ?_
      refine v_lstore (L' := [(10, _), (8, _), (6, _), (5, _), (4, _), (2, _), (1, _), (0, _)]) dX1_judgeWhole_168 (Nat.le_of_ble_eq_true rfl) rfl ?_
      refine v_lload dX1_judgeWhole_170 0 rfl ?_
      refine v_aload_n dX1_judgeWhole_172 rfl 7 rfl ?_
      refine v_getf 4 (ci := 0) (C := RX1) (T := TX1) (N := 6) rfl iwX1_judgeWhole_X1 (Nat.le_of_ble_eq_true rfl) (by decide +kernel) dX1_judgeWhole_173 (by first | with_reducible assumption) rfl ?_
      refine v_getf 4 (ci := 5) (C := RX7) (T := TX7) (N := 8) rfl iwX1_judgeWhole_X7 (Nat.le_of_ble_eq_true rfl) (by decide +kernel) dX1_judgeWhole_176 (by first | with_reducible assumption) rfl ?_
      refine v_i2l dX1_judgeWhole_179 rfl ?_
      refine v_lcmp_ge (tgt := 211) dX1_judgeWhole_180 dX1_judgeWhole_181 (by decide) (fun c_181 => ?_) (fun c_181 => ?_)
      · exact v_ret rfl dX1_judgeWhole_211 (Nat.le_of_ble_eq_true rfl) (Nat.le_of_ble_eq_true rfl) (by
              first
                | (have c7 := Int64.not_le.mp c_130
                   rw [Int64.lt_iff_toInt_lt, jN_to (by omega) (by omega)] at c7
                   have e8 : mW kd (arS ly ar l1 S S.length) (cnS ly l1 S S.length) (((spn (fun i9 j9 => bxO mp sz X Y (S.getD i9 ([], 0)) j9) S.length) 2 - (spn (fun i9 j9 => bxO mp sz X Y (S.getD i9 ([], 0)) j9) S.length) 0) * ((spn (fun i9 j9 => bxO mp sz X Y (S.getD i9 ([], 0)) j9) S.length) 3 - (spn (fun i9 j9 => bxO mp sz X Y (S.getD i9 ([], 0)) j9) S.length) 1)) = jN (arS ly ar l1 S S.length) * 100 / jN (((spn (fun i9 j9 => bxO mp sz X Y (S.getD i9 ([], 0)) j9) S.length) 2 - (spn (fun i9 j9 => bxO mp sz X Y (S.getD i9 ([], 0)) j9) S.length) 0) * ((spn (fun i9 j9 => bxO mp sz X Y (S.getD i9 ([], 0)) j9) S.length) 3 - (spn (fun i9 j9 => bxO mp sz X Y (S.getD i9 ([], 0)) j9) S.length) 1)) := (if_pos hk9).trans (if_pos c7)
                   unfold jWh at hk
                   rw [e8] at hk
                   first
                     | (have c8 := H2
                        have c9 := Int64.not_le.mp c_181
                        rw [Int64.lt_iff_toInt_lt, ← jN_i, jN_to (a := x3.toInt) (by have := x3.le_toInt; omega) (by have := x3.toInt_lt; omega)] at c9
                        rw [if_pos c9] at hk
                        exact hk h2 c8 (N1.frame9 (fun a q1 q2 q3 => (fr2 a (by omega)).trans ((p3 a q3).trans (fr a (by omega)))) ⟨fp, (fr2 _ (by omega)).trans p1⟩) (fun a q1 q2 => (fr2 a q2).trans ((p3 a (by omega)).trans (fr a q2))))
                     | (have c9 := c_181
                        rw [Int64.le_iff_toInt_le, ← jN_i, jN_to (a := x3.toInt) (by have := x3.le_toInt; omega) (by have := x3.toInt_lt; omega)] at c9
                        rw [if_neg (Int.not_lt.mpr c9), List.append_nil] at hk
                        exact hk h1 H1 (N1.frame9 (fun a q1 q2 q3 => (p3 a q3).trans (fr a (by omega))) ⟨fp, p1⟩) (fun a q1 q2 => (p3 a (by omega)).trans (fr a q2))))
                | (have c7 := c_130
                   rw [Int64.le_iff_toInt_le, jN_to (by omega) (by omega)] at c7
                   have e8 : mW kd (arS ly ar l1 S S.length) (cnS ly l1 S S.length) (((spn (fun i9 j9 => bxO mp sz X Y (S.getD i9 ([], 0)) j9) S.length) 2 - (spn (fun i9 j9 => bxO mp sz X Y (S.getD i9 ([], 0)) j9) S.length) 0) * ((spn (fun i9 j9 => bxO mp sz X Y (S.getD i9 ([], 0)) j9) S.length) 3 - (spn (fun i9 j9 => bxO mp sz X Y (S.getD i9 ([], 0)) j9) S.length) 1)) = 0 := (if_pos hk9).trans (if_neg (Int.not_lt.mpr c7))
                   unfold jWh at hk
                   rw [e8] at hk
                   first
                     | (have c8 := H2
                        have c9 := Int64.not_le.mp c_181
                        rw [Int64.lt_iff_toInt_lt, ← jN_i, jN_to (a := x3.toInt) (by have := x3.le_toInt; omega) (by have := x3.toInt_lt; omega)] at c9
                        rw [if_pos c9] at hk
                        exact hk h2 c8 (N1.frame9 (fun a q1 q2 q3 => (fr2 a (by omega)).trans ((p3 a q3).trans (fr a (by omega)))) ⟨fp, (fr2 _ (by omega)).trans p1⟩) (fun a q1 q2 => (fr2 a q2).trans ((p3 a (by omega)).trans (fr a q2))))
                     | (have c9 := c_181
                        rw [Int64.le_iff_toInt_le, ← jN_i, jN_to (a := x3.toInt) (by have := x3.le_toInt; omega) (by have := x3.toInt_lt; omega)] at c9
                        rw [if_neg (Int.not_lt.mpr c9), List.append_nil] at hk
                        exact hk h1 H1 (N1.frame9 (fun a q1 q2 q3 => (p3 a q3).trans (fr a (by omega))) ⟨fp, p1⟩) (fun a q1 q2 => (p3 a (by omega)).trans (fr a q2)))))
      · refine v_aload_n dX1_judgeWhole_184 rfl 7 rfl ?_
        refine v_getf 5 (ci := 0) (C := RX1) (T := TX1) (N := 6) rfl iwX1_judgeWhole_X1 (Nat.le_of_ble_eq_true rfl) (by decide +kernel) dX1_judgeWhole_185 (by first | with_reducible assumption) rfl ?_
        refine v_aload dX1_judgeWhole_188 3 rfl ?_
        refine v_iconst (v := 0) dX1_judgeWhole_190 (by decide) ?_
        refine v_ialdS (v := iN ((spn (fun i9 j9 => bxO mp sz X Y (S.getD i9 ([], 0)) j9) S.length) 0)) dX1_judgeWhole_191 (by first | with_reducible assumption) (show vp_in (nI 0) 4 from vp_in_nI (by omega) (by omega)) (p2 0 (by decide)) ?_
        refine v_aload dX1_judgeWhole_192 3 rfl ?_
        refine v_iconst (v := 1) dX1_judgeWhole_194 (by decide) ?_
        refine v_ialdS (v := iN ((spn (fun i9 j9 => bxO mp sz X Y (S.getD i9 ([], 0)) j9) S.length) 1)) dX1_judgeWhole_195 (by first | with_reducible assumption) (show vp_in (nI 1) 4 from vp_in_nI (by omega) (by omega)) (p2 1 (by decide)) ?_
        refine v_aload dX1_judgeWhole_196 3 rfl ?_
        refine v_iconst (v := 2) dX1_judgeWhole_198 (by decide) ?_
        refine v_ialdS (v := iN ((spn (fun i9 j9 => bxO mp sz X Y (S.getD i9 ([], 0)) j9) S.length) 2)) dX1_judgeWhole_199 (by first | with_reducible assumption) (show vp_in (nI 2) 4 from vp_in_nI (by omega) (by omega)) (p2 2 (by decide)) ?_
        refine v_aload dX1_judgeWhole_200 3 rfl ?_
        refine v_iconst (v := 3) dX1_judgeWhole_202 (by decide) ?_
        refine v_ialdS (v := iN ((spn (fun i9 j9 => bxO mp sz X Y (S.getD i9 ([], 0)) j9) S.length) 3)) dX1_judgeWhole_203 (by first | with_reducible assumption) (show vp_in (nI 3) 4 from vp_in_nI (by omega) (by omega)) (p2 3 (by decide)) ?_
        refine v_iconst (v := (-1)) dX1_judgeWhole_204 (by decide) ?_
        refine v_iconst (v := (-1)) dX1_judgeWhole_205 (by decide) ?_
        refine v_lload dX1_judgeWhole_206 0 rfl ?_
        refine v_callVq (M' := mX10_add) (n := 7) (As := [_, _, _, _, _, _, _]) (ci := 8) (r := (RX10, TX10, 7)) gX1_judgeWhole_X10_add rfl (by decide +kernel) ⟨(Nat.le_of_ble_eq_true rfl), (Nat.le_of_ble_eq_true rfl)⟩ rfl rfl dX1_judgeWhole_208 rfl ⟨(Nat.le_of_ble_eq_true rfl), (Nat.le_of_ble_eq_true rfl)⟩ (Nat.le_of_ble_eq_true rfl) (by first | with_reducible assumption) rfl (c_addN G h1 _ t (c : Int) _ H1 ((spn (fun i9 j9 => bxO mp sz X Y (S.getD i9 ([], 0)) j9) S.length) 0) ((spn (fun i9 j9 => bxO mp sz X Y (S.getD i9 ([], 0)) j9) S.length) 1) ((spn (fun i9 j9 => bxO mp sz X Y (S.getD i9 ([], 0)) j9) S.length) 2) ((spn (fun i9 j9 => bxO mp sz X Y (S.getD i9 ([], 0)) j9) S.length) 3) (-1) (-1) _ _ (show bd _ from by unfold bd; omega) (show bd _ from by unfold bd; omega) (show bd _ from by unfold bd; omega) (show bd _ from by unfold bd; omega) (show bd (-1) from by unfold bd; omega) (show bd (-1) from by unfold bd; omega) (show bd _ from by unfold bd; omega) (jN_of _).symm (by decide) (by decide)) (fun v h2 y2 hq9 => ?_)
        obtain ⟨rfl, rfl, H2, fr2⟩ := hq9
        exact v_ret rfl dX1_judgeWhole_211 (Nat.le_of_ble_eq_true rfl) (Nat.le_of_ble_eq_true rfl) (by
              first
                | (have c7 := Int64.not_le.mp c_130
                   rw [Int64.lt_iff_toInt_lt, jN_to (by omega) (by omega)] at c7
                   have e8 : mW kd (arS ly ar l1 S S.length) (cnS ly l1 S S.length) (((spn (fun i9 j9 => bxO mp sz X Y (S.getD i9 ([], 0)) j9) S.length) 2 - (spn (fun i9 j9 => bxO mp sz X Y (S.getD i9 ([], 0)) j9) S.length) 0) * ((spn (fun i9 j9 => bxO mp sz X Y (S.getD i9 ([], 0)) j9) S.length) 3 - (spn (fun i9 j9 => bxO mp sz X Y (S.getD i9 ([], 0)) j9) S.length) 1)) = jN (arS ly ar l1 S S.length) * 100 / jN (((spn (fun i9 j9 => bxO mp sz X Y (S.getD i9 ([], 0)) j9) S.length) 2 - (spn (fun i9 j9 => bxO mp sz X Y (S.getD i9 ([], 0)) j9) S.length) 0) * ((spn (fun i9 j9 => bxO mp sz X Y (S.getD i9 ([], 0)) j9) S.length) 3 - (spn (fun i9 j9 => bxO mp sz X Y (S.getD i9 ([], 0)) j9) S.length) 1)) := (if_pos hk9).trans (if_pos c7)
                   unfold jWh at hk
                   rw [e8] at hk
                   first
                     | (have c8 := H2
                        have c9 := Int64.not_le.mp c_181
                        rw [Int64.lt_iff_toInt_lt, ← jN_i, jN_to (a := x3.toInt) (by have := x3.le_toInt; omega) (by have := x3.toInt_lt; omega)] at c9
                        rw [if_pos c9] at hk
                        exact hk h2 c8 (N1.frame9 (fun a q1 q2 q3 => (fr2 a (by omega)).trans ((p3 a q3).trans (fr a (by omega)))) ⟨fp, (fr2 _ (by omega)).trans p1⟩) (fun a q1 q2 => (fr2 a q2).trans ((p3 a (by omega)).trans (fr a q2))))
                     | (have c9 := c_181
                        rw [Int64.le_iff_toInt_le, ← jN_i, jN_to (a := x3.toInt) (by have := x3.le_toInt; omega) (by have := x3.toInt_lt; omega)] at c9
                        rw [if_neg (Int.not_lt.mpr c9), List.append_nil] at hk
                        exact hk h1 H1 (N1.frame9 (fun a q1 q2 q3 => (p3 a q3).trans (fr a (by omega))) ⟨fp, p1⟩) (fun a q1 q2 => (p3 a (by omega)).trans (fr a q2))))
                | (have c7 := c_130
                   rw [Int64.le_iff_toInt_le, jN_to (by omega) (by omega)] at c7
                   have e8 : mW kd (arS ly ar l1 S S.length) (cnS ly l1 S S.length) (((spn (fun i9 j9 => bxO mp sz X Y (S.getD i9 ([], 0)) j9) S.length) 2 - (spn (fun i9 j9 => bxO mp sz X Y (S.getD i9 ([], 0)) j9) S.length) 0) * ((spn (fun i9 j9 => bxO mp sz X Y (S.getD i9 ([], 0)) j9) S.length) 3 - (spn (fun i9 j9 => bxO mp sz X Y (S.getD i9 ([], 0)) j9) S.length) 1)) = 0 := (if_pos hk9).trans (if_neg (Int.not_lt.mpr c7))
                   unfold jWh at hk
                   rw [e8] at hk
                   first
                     | (have c8 := H2
                        have c9 := Int64.not_le.mp c_181
                        rw [Int64.lt_iff_toInt_lt, ← jN_i, jN_to (a := x3.toInt) (by have := x3.le_toInt; omega) (by have := x3.toInt_lt; omega)] at c9
                        rw [if_pos c9] at hk
                        exact hk h2 c8 (N1.frame9 (fun a q1 q2 q3 => (fr2 a (by omega)).trans ((p3 a q3).trans (fr a (by omega)))) ⟨fp, (fr2 _ (by omega)).trans p1⟩) (fun a q1 q2 => (fr2 a q2).trans ((p3 a (by omega)).trans (fr a q2))))
                     | (have c9 := c_181
                        rw [Int64.le_iff_toInt_le, ← jN_i, jN_to (a := x3.toInt) (by have := x3.le_toInt; omega) (by have := x3.toInt_lt; omega)] at c9
                        rw [if_neg (Int.not_lt.mpr c9), List.append_nil] at hk
                        exact hk h1 H1 (N1.frame9 (fun a q1 q2 q3 => (p3 a q3).trans (fr a (by omega))) ⟨fp, p1⟩) (fun a q1 q2 => (p3 a (by omega)).trans (fr a q2)))))
  · refine v_lload_n dX1_judgeWhole_133 rfl 3 rfl ?_
    refine v_ldc2 (v := (100)) (by decide +kernel) dX1_judgeWhole_134 ?_
    refine v_lmul dX1_judgeWhole_137 ?_
    refine v_lload dX1_judgeWhole_138 0 rfl ?_
    refine v_ldiv dX1_judgeWhole_140 (fun e9 => by have c9 := Int64.not_le.mp c_130; rw [e9] at c9; exact absurd c9 (by decide)) ?_
    refine v_goto (tgt := 145) dX1_judgeWhole_141 (by decide) ?_
    refine v_lstore (L' := [(8, _), (6, _), (5, _), (4, _), (2, _), (1, _), (0, _)]) dX1_judgeWhole_145 (Nat.le_of_ble_eq_true rfl) rfl ?_
    refine v_aload_n dX1_judgeWhole_147 rfl 6 rfl ?_
    refine v_getf 4 (ci := 0) (C := RX1) (T := TX1) (N := 6) rfl iwX1_judgeWhole_X1 (Nat.le_of_ble_eq_true rfl) (by decide +kernel) dX1_judgeWhole_148 (by first | with_reducible assumption) rfl ?_
    refine v_getf 1 (ci := 5) (C := RX7) (T := TX7) (N := 8) rfl iwX1_judgeWhole_X7 (Nat.le_of_ble_eq_true rfl) (by decide +kernel) dX1_judgeWhole_151 (by first | with_reducible assumption) rfl ?_
    refine v_getk (i := 5) (nm := "DENSITY") (by decide +kernel) (by decide +kernel) dX1_judgeWhole_154 ?_
    refine v_acmp_ne (rx := some (G.2.2.2.2.1 kd)) (ry := some (G.2.2.2.2.1 5)) (tgt := 165) dX1_judgeWhole_157 (by decide) (fun c_157 => ?_) (fun c_157 => ?_)
    · exact absurd (by rw [hk9]) c_157
    · refine v_lload dX1_judgeWhole_160 0 rfl ?_
      refine v_goto (tgt := 168) dX1_judgeWhole_162 (by decide) ?_
      refine v_lstore (L' := [(10, _), (8, _), (6, _), (5, _), (4, _), (2, _), (1, _), (0, _)]) dX1_judgeWhole_168 (Nat.le_of_ble_eq_true rfl) rfl ?_
      refine v_lload dX1_judgeWhole_170 0 rfl ?_
      refine v_aload_n dX1_judgeWhole_172 rfl 7 rfl ?_
      refine v_getf 4 (ci := 0) (C := RX1) (T := TX1) (N := 6) rfl iwX1_judgeWhole_X1 (Nat.le_of_ble_eq_true rfl) (by decide +kernel) dX1_judgeWhole_173 (by first | with_reducible assumption) rfl ?_
      refine v_getf 4 (ci := 5) (C := RX7) (T := TX7) (N := 8) rfl iwX1_judgeWhole_X7 (Nat.le_of_ble_eq_true rfl) (by decide +kernel) dX1_judgeWhole_176 (by first | with_reducible assumption) rfl ?_
      refine v_i2l dX1_judgeWhole_179 rfl ?_
      refine v_lcmp_ge (tgt := 211) dX1_judgeWhole_180 dX1_judgeWhole_181 (by decide) (fun c_181 => ?_) (fun c_181 => ?_)
      · exact v_ret rfl dX1_judgeWhole_211 (Nat.le_of_ble_eq_true rfl) (Nat.le_of_ble_eq_true rfl) (by
              first
                | (have c7 := Int64.not_le.mp c_130
                   rw [Int64.lt_iff_toInt_lt, jN_to (by omega) (by omega)] at c7
                   have e8 : mW kd (arS ly ar l1 S S.length) (cnS ly l1 S S.length) (((spn (fun i9 j9 => bxO mp sz X Y (S.getD i9 ([], 0)) j9) S.length) 2 - (spn (fun i9 j9 => bxO mp sz X Y (S.getD i9 ([], 0)) j9) S.length) 0) * ((spn (fun i9 j9 => bxO mp sz X Y (S.getD i9 ([], 0)) j9) S.length) 3 - (spn (fun i9 j9 => bxO mp sz X Y (S.getD i9 ([], 0)) j9) S.length) 1)) = jN (arS ly ar l1 S S.length) * 100 / jN (((spn (fun i9 j9 => bxO mp sz X Y (S.getD i9 ([], 0)) j9) S.length) 2 - (spn (fun i9 j9 => bxO mp sz X Y (S.getD i9 ([], 0)) j9) S.length) 0) * ((spn (fun i9 j9 => bxO mp sz X Y (S.getD i9 ([], 0)) j9) S.length) 3 - (spn (fun i9 j9 => bxO mp sz X Y (S.getD i9 ([], 0)) j9) S.length) 1)) := (if_pos hk9).trans (if_pos c7)
                   unfold jWh at hk
                   rw [e8] at hk
                   first
                     | (have c8 := H2
                        have c9 := Int64.not_le.mp c_181
                        rw [Int64.lt_iff_toInt_lt, ← jN_i, jN_to (a := x3.toInt) (by have := x3.le_toInt; omega) (by have := x3.toInt_lt; omega)] at c9
                        rw [if_pos c9] at hk
                        exact hk h2 c8 (N1.frame9 (fun a q1 q2 q3 => (fr2 a (by omega)).trans ((p3 a q3).trans (fr a (by omega)))) ⟨fp, (fr2 _ (by omega)).trans p1⟩) (fun a q1 q2 => (fr2 a q2).trans ((p3 a (by omega)).trans (fr a q2))))
                     | (have c9 := c_181
                        rw [Int64.le_iff_toInt_le, ← jN_i, jN_to (a := x3.toInt) (by have := x3.le_toInt; omega) (by have := x3.toInt_lt; omega)] at c9
                        rw [if_neg (Int.not_lt.mpr c9), List.append_nil] at hk
                        exact hk h1 H1 (N1.frame9 (fun a q1 q2 q3 => (p3 a q3).trans (fr a (by omega))) ⟨fp, p1⟩) (fun a q1 q2 => (p3 a (by omega)).trans (fr a q2))))
                | (have c7 := c_130
                   rw [Int64.le_iff_toInt_le, jN_to (by omega) (by omega)] at c7
                   have e8 : mW kd (arS ly ar l1 S S.length) (cnS ly l1 S S.length) (((spn (fun i9 j9 => bxO mp sz X Y (S.getD i9 ([], 0)) j9) S.length) 2 - (spn (fun i9 j9 => bxO mp sz X Y (S.getD i9 ([], 0)) j9) S.length) 0) * ((spn (fun i9 j9 => bxO mp sz X Y (S.getD i9 ([], 0)) j9) S.length) 3 - (spn (fun i9 j9 => bxO mp sz X Y (S.getD i9 ([], 0)) j9) S.length) 1)) = 0 := (if_pos hk9).trans (if_neg (Int.not_lt.mpr c7))
                   unfold jWh at hk
                   rw [e8] at hk
                   first
                     | (have c8 := H2
                        have c9 := Int64.not_le.mp c_181
                        rw [Int64.lt_iff_toInt_lt, ← jN_i, jN_to (a := x3.toInt) (by have := x3.le_toInt; omega) (by have := x3.toInt_lt; omega)] at c9
                        rw [if_pos c9] at hk
                        exact hk h2 c8 (N1.frame9 (fun a q1 q2 q3 => (fr2 a (by omega)).trans ((p3 a q3).trans (fr a (by omega)))) ⟨fp, (fr2 _ (by omega)).trans p1⟩) (fun a q1 q2 => (fr2 a q2).trans ((p3 a (by omega)).trans (fr a q2))))
                     | (have c9 := c_181
                        rw [Int64.le_iff_toInt_le, ← jN_i, jN_to (a := x3.toInt) (by have := x3.le_toInt; omega) (by have := x3.toInt_lt; omega)] at c9
                        rw [if_neg (Int.not_lt.mpr c9), List.append_nil] at hk
                        exact hk h1 H1 (N1.frame9 (fun a q1 q2 q3 => (p3 a q3).trans (fr a (by omega))) ⟨fp, p1⟩) (fun a q1 q2 => (p3 a (by omega)).trans (fr a q2)))))
      · refine v_aload_n dX1_judgeWhole_184 rfl 7 rfl ?_
        refine v_getf 5 (ci := 0) (C := RX1) (T := TX1) (N := 6) rfl iwX1_judgeWhole_X1 (Nat.le_of_ble_eq_true rfl) (by decide +kernel) dX1_judgeWhole_185 (by first | with_reducible assumption) rfl ?_
        refine v_aload dX1_judgeWhole_188 3 rfl ?_
        refine v_iconst (v := 0) dX1_judgeWhole_190 (by decide) ?_
        refine v_ialdS (v := iN ((spn (fun i9 j9 => bxO mp sz X Y (S.getD i9 ([], 0)) j9) S.length) 0)) dX1_judgeWhole_191 (by first | with_reducible assumption) (show vp_in (nI 0) 4 from vp_in_nI (by omega) (by omega)) (p2 0 (by decide)) ?_
        refine v_aload dX1_judgeWhole_192 3 rfl ?_
        refine v_iconst (v := 1) dX1_judgeWhole_194 (by decide) ?_
        refine v_ialdS (v := iN ((spn (fun i9 j9 => bxO mp sz X Y (S.getD i9 ([], 0)) j9) S.length) 1)) dX1_judgeWhole_195 (by first | with_reducible assumption) (show vp_in (nI 1) 4 from vp_in_nI (by omega) (by omega)) (p2 1 (by decide)) ?_
        refine v_aload dX1_judgeWhole_196 3 rfl ?_
        refine v_iconst (v := 2) dX1_judgeWhole_198 (by decide) ?_
        refine v_ialdS (v := iN ((spn (fun i9 j9 => bxO mp sz X Y (S.getD i9 ([], 0)) j9) S.length) 2)) dX1_judgeWhole_199 (by first | with_reducible assumption) (show vp_in (nI 2) 4 from vp_in_nI (by omega) (by omega)) (p2 2 (by decide)) ?_
        refine v_aload dX1_judgeWhole_200 3 rfl ?_
        refine v_iconst (v := 3) dX1_judgeWhole_202 (by decide) ?_
        refine v_ialdS (v := iN ((spn (fun i9 j9 => bxO mp sz X Y (S.getD i9 ([], 0)) j9) S.length) 3)) dX1_judgeWhole_203 (by first | with_reducible assumption) (show vp_in (nI 3) 4 from vp_in_nI (by omega) (by omega)) (p2 3 (by decide)) ?_
        refine v_iconst (v := (-1)) dX1_judgeWhole_204 (by decide) ?_
        refine v_iconst (v := (-1)) dX1_judgeWhole_205 (by decide) ?_
        refine v_lload dX1_judgeWhole_206 0 rfl ?_
        refine v_callVq (M' := mX10_add) (n := 7) (As := [_, _, _, _, _, _, _]) (ci := 8) (r := (RX10, TX10, 7)) gX1_judgeWhole_X10_add rfl (by decide +kernel) ⟨(Nat.le_of_ble_eq_true rfl), (Nat.le_of_ble_eq_true rfl)⟩ rfl rfl dX1_judgeWhole_208 rfl ⟨(Nat.le_of_ble_eq_true rfl), (Nat.le_of_ble_eq_true rfl)⟩ (Nat.le_of_ble_eq_true rfl) (by first | with_reducible assumption) rfl (c_addN G h1 _ t (c : Int) _ H1 ((spn (fun i9 j9 => bxO mp sz X Y (S.getD i9 ([], 0)) j9) S.length) 0) ((spn (fun i9 j9 => bxO mp sz X Y (S.getD i9 ([], 0)) j9) S.length) 1) ((spn (fun i9 j9 => bxO mp sz X Y (S.getD i9 ([], 0)) j9) S.length) 2) ((spn (fun i9 j9 => bxO mp sz X Y (S.getD i9 ([], 0)) j9) S.length) 3) (-1) (-1) _ _ (show bd _ from by unfold bd; omega) (show bd _ from by unfold bd; omega) (show bd _ from by unfold bd; omega) (show bd _ from by unfold bd; omega) (show bd (-1) from by unfold bd; omega) (show bd (-1) from by unfold bd; omega) (show bd _ from by unfold bd; omega) (jN_of _).symm (by decide) (by decide)) (fun v h2 y2 hq9 => ?_)
        obtain ⟨rfl, rfl, H2, fr2⟩ := hq9
        exact v_ret rfl dX1_judgeWhole_211 (Nat.le_of_ble_eq_true rfl) (Nat.le_of_ble_eq_true rfl) (by
              first
                | (have c7 := Int64.not_le.mp c_130
                   rw [Int64.lt_iff_toInt_lt, jN_to (by omega) (by omega)] at c7
                   have e8 : mW kd (arS ly ar l1 S S.length) (cnS ly l1 S S.length) (((spn (fun i9 j9 => bxO mp sz X Y (S.getD i9 ([], 0)) j9) S.length) 2 - (spn (fun i9 j9 => bxO mp sz X Y (S.getD i9 ([], 0)) j9) S.length) 0) * ((spn (fun i9 j9 => bxO mp sz X Y (S.getD i9 ([], 0)) j9) S.length) 3 - (spn (fun i9 j9 => bxO mp sz X Y (S.getD i9 ([], 0)) j9) S.length) 1)) = jN (arS ly ar l1 S S.length) * 100 / jN (((spn (fun i9 j9 => bxO mp sz X Y (S.getD i9 ([], 0)) j9) S.length) 2 - (spn (fun i9 j9 => bxO mp sz X Y (S.getD i9 ([], 0)) j9) S.length) 0) * ((spn (fun i9 j9 => bxO mp sz X Y (S.getD i9 ([], 0)) j9) S.length) 3 - (spn (fun i9 j9 => bxO mp sz X Y (S.getD i9 ([], 0)) j9) S.length) 1)) := (if_pos hk9).trans (if_pos c7)
                   unfold jWh at hk
                   rw [e8] at hk
                   first
                     | (have c8 := H2
                        have c9 := Int64.not_le.mp c_181
                        rw [Int64.lt_iff_toInt_lt, ← jN_i, jN_to (a := x3.toInt) (by have := x3.le_toInt; omega) (by have := x3.toInt_lt; omega)] at c9
                        rw [if_pos c9] at hk
                        exact hk h2 c8 (N1.frame9 (fun a q1 q2 q3 => (fr2 a (by omega)).trans ((p3 a q3).trans (fr a (by omega)))) ⟨fp, (fr2 _ (by omega)).trans p1⟩) (fun a q1 q2 => (fr2 a q2).trans ((p3 a (by omega)).trans (fr a q2))))
                     | (have c9 := c_181
                        rw [Int64.le_iff_toInt_le, ← jN_i, jN_to (a := x3.toInt) (by have := x3.le_toInt; omega) (by have := x3.toInt_lt; omega)] at c9
                        rw [if_neg (Int.not_lt.mpr c9), List.append_nil] at hk
                        exact hk h1 H1 (N1.frame9 (fun a q1 q2 q3 => (p3 a q3).trans (fr a (by omega))) ⟨fp, p1⟩) (fun a q1 q2 => (p3 a (by omega)).trans (fr a q2))))
                | (have c7 := c_130
                   rw [Int64.le_iff_toInt_le, jN_to (by omega) (by omega)] at c7
                   have e8 : mW kd (arS ly ar l1 S S.length) (cnS ly l1 S S.length) (((spn (fun i9 j9 => bxO mp sz X Y (S.getD i9 ([], 0)) j9) S.length) 2 - (spn (fun i9 j9 => bxO mp sz X Y (S.getD i9 ([], 0)) j9) S.length) 0) * ((spn (fun i9 j9 => bxO mp sz X Y (S.getD i9 ([], 0)) j9) S.length) 3 - (spn (fun i9 j9 => bxO mp sz X Y (S.getD i9 ([], 0)) j9) S.length) 1)) = 0 := (if_pos hk9).trans (if_neg (Int.not_lt.mpr c7))
                   unfold jWh at hk
                   rw [e8] at hk
                   first
                     | (have c8 := H2
                        have c9 := Int64.not_le.mp c_181
                        rw [Int64.lt_iff_toInt_lt, ← jN_i, jN_to (a := x3.toInt) (by have := x3.le_toInt; omega) (by have := x3.toInt_lt; omega)] at c9
                        rw [if_pos c9] at hk
                        exact hk h2 c8 (N1.frame9 (fun a q1 q2 q3 => (fr2 a (by omega)).trans ((p3 a q3).trans (fr a (by omega)))) ⟨fp, (fr2 _ (by omega)).trans p1⟩) (fun a q1 q2 => (fr2 a q2).trans ((p3 a (by omega)).trans (fr a q2))))
                     | (have c9 := c_181
                        rw [Int64.le_iff_toInt_le, ← jN_i, jN_to (a := x3.toInt) (by have := x3.le_toInt; omega) (by have := x3.toInt_lt; omega)] at c9
                        rw [if_neg (Int.not_lt.mpr c9), List.append_nil] at hk
                        exact hk h1 H1 (N1.frame9 (fun a q1 q2 q3 => (p3 a q3).trans (fr a (by omega))) ⟨fp, p1⟩) (fun a q1 q2 => (p3 a (by omega)).trans (fr a q2)))))

set_option maxHeartbeats 4000000 in
set_option maxRecDepth 100000 in
theorem t_wh6 (G : sv_G) (Qr : Option Value → sv_h → Nat → Prop) (hki : sv_ki G) (hb : sv_h) (z b : Nat) (k : Int32) (nc np pl : Nat) (R : Nat → Bool) (hm pa sz : Nat → Nat) (ly vo ar : Nat → Int32) (X Y : Nat → Nat → Int) (fc : Nat → Nat → Nat) (oc : Nat → Nat → Option Nat) (mp : Nat → mvT) (w3 : Bool) (T : List Nat × Nat → Nat → List (Int × Int × Int)) (S : List (List Nat × Nat)) (q t : Nat) (n0 : Int64) (kd : Nat) (l1 l2 x3 x4 x5 x6 : Int32) (K : ck_ G w3 b k nc np pl R hm pa sz ly vo ar X Y fc oc mp T S q t n0 kd l1 l2 x3 x4 x5 x6 hb) (hk9 : kd = 6) (c : Nat) (hc : c < 16) (N1 : sn_ G b hb) (h : sv_h) (fr : ∀ a, ¬ (t ≤ a ∧ a < t + 4) → h a = hb a) (E0 : List (List Int64)) (H : tE G h t (iN (c : Int)) E0) (hk : ∀ h3, tE G h3 t (iN (c : Int)) (E0 ++ jWh kd x3 (c : Int) (arS ly ar l1 S S.length) (cnS ly l1 S S.length) (spn (fun i9 j9 => bxO mp sz X Y (S.getD i9 ([], 0)) j9) S.length)) → sn_ G b h3 → (∀ a, ¬ (b + 35 ≤ a ∧ a < b + 164) → ¬ (t ≤ a ∧ a < t + 4) → h3 a = hb a) → Qr none h3 z) (cl : Int32) : V G mX1_judgeWhole (sv_MQ G mX1_judgeWhole Qr) 87 [(4, .int (nI (cnS ly l1 S S.length))), (2, .long (jN (arS ly ar l1 S S.length))), (1, .int cl), (0, .ref (b + 32))] [] h z 0 0 := by
  obtain ⟨Z, ⟨⟨fb, fcx, fcy, k1, k2, k3, k4⟩, ⟨fs9, fa, fr9, ft, k5, k6, k7, k8, k9, kA, kB⟩, ⟨fsp, kC⟩, _⟩, kD, kE, kF, kG, kH, kI⟩ := id K
  obtain ⟨z0, z1, ⟨fs, z2, z3⟩, ⟨fb_, z4, z5⟩, ⟨fl, z6, z7⟩, z8, z9, ⟨fq, zA, zB⟩, zC, zD, zE, zF⟩ := id Z
  have w1 := (fr (b + 35) (by omega)).trans z1
  have w2 : ab_I G h (b + 37) 100 fs := (fr _ (by omega)).trans z2
  have w4 : ab_I G h (b + 38) 100 fb_ := (fr _ (by omega)).trans z4
  have w6 : ab_Q G h (b + 39) 3 100 fl := (fr _ (by omega)).trans z6
  have w9 := (fr (b + 1) (by omega)).trans z9
  have wA : ab_Q G h (b + 2) 4 64 fq := (fr _ (by omega)).trans zA
  have wB : ab_I G h (b + 40) 400 fb := (fr _ (by omega)).trans k1
  have wC : ab_I G h (b + 44) 401 fs9 := (fr _ (by omega)).trans k5
  have wD : ab_I G h (b + 45) 1600 fa := (fr _ (by omega)).trans k6
  have wE : ab_I G h (b + 46) 1600 fr9 := (fr _ (by omega)).trans k7
  have wF : ab_I G h (b + 47) 1600 ft := (fr _ (by omega)).trans k8
  have wG := (fr (b + 32) (by omega)).trans kD
  have wH := (fr q (by omega)).trans kE
  have w41 : ab_I G h (b + 41) 4 fsp := (fr _ (by omega)).trans kC
  obtain ⟨fst9, ht9⟩ := H.obj
  have hB : ∀ i, i < S.length → ∀ j, -200000 ≤ bxO mp sz X Y (S.getD i ([], 0)) j ∧ bxO mp sz X Y (S.getD i ([], 0)) j ≤ 200000 := fun i hi j => bxk_b (zE i hi).2.2 (by obtain ⟨_, _, _, _, _, _, _, _, _, g4, _⟩ := zD _ (zE i hi).1 (zE i hi).2.1; omega) j
  have sb := spn_b (B := (fun i9 j9 => bxO mp sz X Y (S.getD i9 ([], 0)) j9)) hB S.length (Nat.le_refl _)
  have sb0 := sb 0; have sb1 := sb 1; have sb2 := sb 2; have sb3 := sb 3
  have qb := mul_b (a := (spn (fun i9 j9 => bxO mp sz X Y (S.getD i9 ([], 0)) j9) S.length) 2 - (spn (fun i9 j9 => bxO mp sz X Y (S.getD i9 ([], 0)) j9) S.length) 0) (c := (spn (fun i9 j9 => bxO mp sz X Y (S.getD i9 ([], 0)) j9) S.length) 3 - (spn (fun i9 j9 => bxO mp sz X Y (S.getD i9 ([], 0)) j9) S.length) 1) (by omega) (by omega)
  have cb := cnS_le ly l1 S S.length
  refine v_aload_n dX1_judgeWhole_87 rfl 3 rfl ?_
  refine v_getf 1 (ci := 0) (C := RX1) (T := TX1) (N := 6) rfl iwX1_judgeWhole_X1 (Nat.le_of_ble_eq_true rfl) (by decide +kernel) dX1_judgeWhole_88 (by first | with_reducible assumption) rfl ?_
  refine v_callVq (M' := mX8_spanAll) (n := 0) (As := []) (ci := 6) (r := (RX8, TX8, 14)) gX1_judgeWhole_X8_spanAll rfl (by decide +kernel) ⟨(Nat.le_of_ble_eq_true rfl), (Nat.le_of_ble_eq_true rfl)⟩ rfl rfl dX1_judgeWhole_91 rfl ⟨(Nat.le_of_ble_eq_true rfl), (Nat.le_of_ble_eq_true rfl)⟩ (Nat.le_of_ble_eq_true rfl) (by first | with_reducible assumption) rfl (c_spanAll G _ b S.length (fun i9 j9 => bxO mp sz X Y (S.getD i9 ([], 0)) j9) h w1 fb wB (fun i hi j hj => k4 i hi j hj) hB z0 fsp w41) (fun v h1 y1 hq9 => ?_)
  obtain ⟨rfl, rfl, ⟨fp, p1, p2⟩, p3⟩ := hq9
  have wG1 := (p3 (b + 32) (by omega)).trans wG
  have wH1 := (p3 q (by omega)).trans wH
  have w11 := (p3 (b + 35) (by omega)).trans w1
  have ht1 := (p3 t (by omega)).trans ht9
  have H1 : tE G h1 t (iN (c : Int)) E0 := H.kept (fun a q1 q2 => p3 a (by omega))
  refine v_aload_n dX1_judgeWhole_94 rfl 3 rfl ?_
  refine v_getf 1 (ci := 0) (C := RX1) (T := TX1) (N := 6) rfl iwX1_judgeWhole_X1 (Nat.le_of_ble_eq_true rfl) (by decide +kernel) dX1_judgeWhole_95 (by first | with_reducible assumption) rfl ?_
  refine v_getf 7 (ci := 6) (C := RX8) (T := TX8) (N := 14) rfl iwX1_judgeWhole_X8 (Nat.le_of_ble_eq_true rfl) (by decide +kernel) dX1_judgeWhole_98 (by first | with_reducible assumption) rfl ?_
  refine v_astore (L' := [(5, _), (4, _), (2, _), (1, _), (0, _)]) dX1_judgeWhole_101 (Nat.le_of_ble_eq_true rfl) rfl ?_
  refine v_aload dX1_judgeWhole_103 0 rfl ?_
  refine v_iconst (v := 2) dX1_judgeWhole_105 (by decide) ?_
  refine v_ialdS (v := iN ((spn (fun i9 j9 => bxO mp sz X Y (S.getD i9 ([], 0)) j9) S.length) 2)) dX1_judgeWhole_106 (by first | with_reducible assumption) (show vp_in (nI 2) 4 from vp_in_nI (by omega) (by omega)) (p2 2 (by decide)) ?_
  refine v_aload dX1_judgeWhole_107 0 rfl ?_
  refine v_iconst (v := 0) dX1_judgeWhole_109 (by decide) ?_
  refine v_ialdS (v := iN ((spn (fun i9 j9 => bxO mp sz X Y (S.getD i9 ([], 0)) j9) S.length) 0)) dX1_judgeWhole_110 (by first | with_reducible assumption) (show vp_in (nI 0) 4 from vp_in_nI (by omega) (by omega)) (p2 0 (by decide)) ?_
  refine v_isub dX1_judgeWhole_111 ?_
  rw [← iN_sub]
  refine v_i2l dX1_judgeWhole_112 rfl ?_
  rw [iN_64 (by omega) (by omega)]
  refine v_aload dX1_judgeWhole_113 0 rfl ?_
  refine v_iconst (v := 3) dX1_judgeWhole_115 (by decide) ?_
  refine v_ialdS (v := iN ((spn (fun i9 j9 => bxO mp sz X Y (S.getD i9 ([], 0)) j9) S.length) 3)) dX1_judgeWhole_116 (by first | with_reducible assumption) (show vp_in (nI 3) 4 from vp_in_nI (by omega) (by omega)) (p2 3 (by decide)) ?_
  refine v_aload dX1_judgeWhole_117 0 rfl ?_
  refine v_iconst (v := 1) dX1_judgeWhole_119 (by decide) ?_
  refine v_ialdS (v := iN ((spn (fun i9 j9 => bxO mp sz X Y (S.getD i9 ([], 0)) j9) S.length) 1)) dX1_judgeWhole_120 (by first | with_reducible assumption) (show vp_in (nI 1) 4 from vp_in_nI (by omega) (by omega)) (p2 1 (by decide)) ?_
  refine v_isub dX1_judgeWhole_121 ?_
  rw [← iN_sub]
  refine v_i2l dX1_judgeWhole_122 rfl ?_
  rw [iN_64 (by omega) (by omega)]
  refine v_lmul dX1_judgeWhole_123 ?_
  rw [← jN_mul]
  refine v_lstore (L' := [(6, _), (5, _), (4, _), (2, _), (1, _), (0, _)]) dX1_judgeWhole_124 (Nat.le_of_ble_eq_true rfl) rfl ?_
  refine v_lload dX1_judgeWhole_126 0 rfl ?_
  refine v_lconst (v := 0) dX1_judgeWhole_128 (by decide) ?_
  refine v_lcmp_le (tgt := 144) dX1_judgeWhole_129 dX1_judgeWhole_130 (by decide) (fun c_130 => ?_) (fun c_130 => ?_)
  · refine v_lconst (v := 0) dX1_judgeWhole_144 (by decide) ?_
    refine v_lstore (L' := [(8, _), (6, _), (5, _), (4, _), (2, _), (1, _), (0, _)]) dX1_judgeWhole_145 (Nat.le_of_ble_eq_true rfl) rfl ?_
    refine v_aload_n dX1_judgeWhole_147 rfl 6 rfl ?_
    refine v_getf 4 (ci := 0) (C := RX1) (T := TX1) (N := 6) rfl iwX1_judgeWhole_X1 (Nat.le_of_ble_eq_true rfl) (by decide +kernel) dX1_judgeWhole_148 (by first | with_reducible assumption) rfl ?_
    refine v_getf 1 (ci := 5) (C := RX7) (T := TX7) (N := 8) rfl iwX1_judgeWhole_X7 (Nat.le_of_ble_eq_true rfl) (by decide +kernel) dX1_judgeWhole_151 (by first | with_reducible assumption) rfl ?_
    refine v_getk (i := 5) (nm := "DENSITY") (by decide +kernel) (by decide +kernel) dX1_judgeWhole_154 ?_
    refine v_acmp_ne (rx := some (G.2.2.2.2.1 kd)) (ry := some (G.2.2.2.2.1 5)) (tgt := 165) dX1_judgeWhole_157 (by decide) (fun c_157 => ?_) (fun c_157 => ?_)
    · refine v_iload dX1_judgeWhole_165 3 rfl ?_
      refine v_i2l dX1_judgeWhole_167 rfl ?_
      rw [show (nI (cnS ly l1 S S.length)).toInt64 = jN (cnS ly l1 S S.length : Int) from iN_64 (x := (cnS ly l1 S S.length : Int)) (by omega) (by omega)]
      refine v_lstore (L' := [(10, _), (8, _), (6, _), (5, _), (4, _), (2, _), (1, _), (0, _)]) dX1_judgeWhole_168 (Nat.le_of_ble_eq_true rfl) rfl ?_
      refine v_lload dX1_judgeWhole_170 0 rfl ?_
      refine v_aload_n dX1_judgeWhole_172 rfl 7 rfl ?_
      refine v_getf 4 (ci := 0) (C := RX1) (T := TX1) (N := 6) rfl iwX1_judgeWhole_X1 (Nat.le_of_ble_eq_true rfl) (by decide +kernel) dX1_judgeWhole_173 (by first | with_reducible assumption) rfl ?_
      refine v_getf 4 (ci := 5) (C := RX7) (T := TX7) (N := 8) rfl iwX1_judgeWhole_X7 (Nat.le_of_ble_eq_true rfl) (by decide +kernel) dX1_judgeWhole_176 (by first | with_reducible assumption) rfl ?_
      refine v_i2l dX1_judgeWhole_179 rfl ?_
      refine v_lcmp_ge (tgt := 211) dX1_judgeWhole_180 dX1_judgeWhole_181 (by decide) (fun c_181 => ?_) (fun c_181 => ?_)
      · exact v_ret rfl dX1_judgeWhole_211 (Nat.le_of_ble_eq_true rfl) (Nat.le_of_ble_eq_true rfl) (by
              have e8 : mW kd (arS ly ar l1 S S.length) (cnS ly l1 S S.length) (((spn (fun i9 j9 => bxO mp sz X Y (S.getD i9 ([], 0)) j9) S.length) 2 - (spn (fun i9 j9 => bxO mp sz X Y (S.getD i9 ([], 0)) j9) S.length) 0) * ((spn (fun i9 j9 => bxO mp sz X Y (S.getD i9 ([], 0)) j9) S.length) 3 - (spn (fun i9 j9 => bxO mp sz X Y (S.getD i9 ([], 0)) j9) S.length) 1)) = jN (cnS ly l1 S S.length : Int) := if_neg (by omega)
              unfold jWh at hk
              rw [e8] at hk
              first
                | (have c8 := H2
                   have c9 := Int64.not_le.mp c_181
                   rw [Int64.lt_iff_toInt_lt, ← jN_i, jN_to (a := x3.toInt) (by have := x3.le_toInt; omega) (by have := x3.toInt_lt; omega)] at c9
                   rw [if_pos c9] at hk
                   exact hk h2 c8 (N1.frame9 (fun a q1 q2 q3 => (fr2 a (by omega)).trans ((p3 a q3).trans (fr a (by omega)))) ⟨fp, (fr2 _ (by omega)).trans p1⟩) (fun a q1 q2 => (fr2 a q2).trans ((p3 a (by omega)).trans (fr a q2))))
                | (have c9 := c_181
                   rw [Int64.le_iff_toInt_le, ← jN_i, jN_to (a := x3.toInt) (by have := x3.le_toInt; omega) (by have := x3.toInt_lt; omega)] at c9
                   rw [if_neg (Int.not_lt.mpr c9), List.append_nil] at hk
                   exact hk h1 H1 (N1.frame9 (fun a q1 q2 q3 => (p3 a q3).trans (fr a (by omega))) ⟨fp, p1⟩) (fun a q1 q2 => (p3 a (by omega)).trans (fr a q2))))
      · refine v_aload_n dX1_judgeWhole_184 rfl 7 rfl ?_
        refine v_getf 5 (ci := 0) (C := RX1) (T := TX1) (N := 6) rfl iwX1_judgeWhole_X1 (Nat.le_of_ble_eq_true rfl) (by decide +kernel) dX1_judgeWhole_185 (by first | with_reducible assumption) rfl ?_
        refine v_aload dX1_judgeWhole_188 3 rfl ?_
        refine v_iconst (v := 0) dX1_judgeWhole_190 (by decide) ?_
        refine v_ialdS (v := iN ((spn (fun i9 j9 => bxO mp sz X Y (S.getD i9 ([], 0)) j9) S.length) 0)) dX1_judgeWhole_191 (by first | with_reducible assumption) (show vp_in (nI 0) 4 from vp_in_nI (by omega) (by omega)) (p2 0 (by decide)) ?_
        refine v_aload dX1_judgeWhole_192 3 rfl ?_
        refine v_iconst (v := 1) dX1_judgeWhole_194 (by decide) ?_
        refine v_ialdS (v := iN ((spn (fun i9 j9 => bxO mp sz X Y (S.getD i9 ([], 0)) j9) S.length) 1)) dX1_judgeWhole_195 (by first | with_reducible assumption) (show vp_in (nI 1) 4 from vp_in_nI (by omega) (by omega)) (p2 1 (by decide)) ?_
        refine v_aload dX1_judgeWhole_196 3 rfl ?_
        refine v_iconst (v := 2) dX1_judgeWhole_198 (by decide) ?_
        refine v_ialdS (v := iN ((spn (fun i9 j9 => bxO mp sz X Y (S.getD i9 ([], 0)) j9) S.length) 2)) dX1_judgeWhole_199 (by first | with_reducible assumption) (show vp_in (nI 2) 4 from vp_in_nI (by omega) (by omega)) (p2 2 (by decide)) ?_
        refine v_aload dX1_judgeWhole_200 3 rfl ?_
        refine v_iconst (v := 3) dX1_judgeWhole_202 (by decide) ?_
        refine v_ialdS (v := iN ((spn (fun i9 j9 => bxO mp sz X Y (S.getD i9 ([], 0)) j9) S.length) 3)) dX1_judgeWhole_203 (by first | with_reducible assumption) (show vp_in (nI 3) 4 from vp_in_nI (by omega) (by omega)) (p2 3 (by decide)) ?_
        refine v_iconst (v := (-1)) dX1_judgeWhole_204 (by decide) ?_
        refine v_iconst (v := (-1)) dX1_judgeWhole_205 (by decide) ?_
        refine v_lload dX1_judgeWhole_206 0 rfl ?_
        refine v_callVq (M' := mX10_add) (n := 7) (As := [_, _, _, _, _, _, _]) (ci := 8) (r := (RX10, TX10, 7)) gX1_judgeWhole_X10_add rfl (by decide +kernel) ⟨(Nat.le_of_ble_eq_true rfl), (Nat.le_of_ble_eq_true rfl)⟩ rfl rfl dX1_judgeWhole_208 rfl ⟨(Nat.le_of_ble_eq_true rfl), (Nat.le_of_ble_eq_true rfl)⟩ (Nat.le_of_ble_eq_true rfl) (by first | with_reducible assumption) rfl (c_addN G h1 _ t (c : Int) _ H1 ((spn (fun i9 j9 => bxO mp sz X Y (S.getD i9 ([], 0)) j9) S.length) 0) ((spn (fun i9 j9 => bxO mp sz X Y (S.getD i9 ([], 0)) j9) S.length) 1) ((spn (fun i9 j9 => bxO mp sz X Y (S.getD i9 ([], 0)) j9) S.length) 2) ((spn (fun i9 j9 => bxO mp sz X Y (S.getD i9 ([], 0)) j9) S.length) 3) (-1) (-1) _ _ (show bd _ from by unfold bd; omega) (show bd _ from by unfold bd; omega) (show bd _ from by unfold bd; omega) (show bd _ from by unfold bd; omega) (show bd (-1) from by unfold bd; omega) (show bd (-1) from by unfold bd; omega) (show bd _ from by unfold bd; omega) (jN_of _).symm (by decide) (by decide)) (fun v h2 y2 hq9 => ?_)
        obtain ⟨rfl, rfl, H2, fr2⟩ := hq9
        exact v_ret rfl dX1_judgeWhole_211 (Nat.le_of_ble_eq_true rfl) (Nat.le_of_ble_eq_true rfl) (by
              have e8 : mW kd (arS ly ar l1 S S.length) (cnS ly l1 S S.length) (((spn (fun i9 j9 => bxO mp sz X Y (S.getD i9 ([], 0)) j9) S.length) 2 - (spn (fun i9 j9 => bxO mp sz X Y (S.getD i9 ([], 0)) j9) S.length) 0) * ((spn (fun i9 j9 => bxO mp sz X Y (S.getD i9 ([], 0)) j9) S.length) 3 - (spn (fun i9 j9 => bxO mp sz X Y (S.getD i9 ([], 0)) j9) S.length) 1)) = jN (cnS ly l1 S S.length : Int) := if_neg (by omega)
              unfold jWh at hk
              rw [e8] at hk
              first
                | (have c8 := H2
                   have c9 := Int64.not_le.mp c_181
                   rw [Int64.lt_iff_toInt_lt, ← jN_i, jN_to (a := x3.toInt) (by have := x3.le_toInt; omega) (by have := x3.toInt_lt; omega)] at c9
                   rw [if_pos c9] at hk
                   exact hk h2 c8 (N1.frame9 (fun a q1 q2 q3 => (fr2 a (by omega)).trans ((p3 a q3).trans (fr a (by omega)))) ⟨fp, (fr2 _ (by omega)).trans p1⟩) (fun a q1 q2 => (fr2 a q2).trans ((p3 a (by omega)).trans (fr a q2))))
                | (have c9 := c_181
                   rw [Int64.le_iff_toInt_le, ← jN_i, jN_to (a := x3.toInt) (by have := x3.le_toInt; omega) (by have := x3.toInt_lt; omega)] at c9
                   rw [if_neg (Int.not_lt.mpr c9), List.append_nil] at hk
                   exact hk h1 H1 (N1.frame9 (fun a q1 q2 q3 => (p3 a q3).trans (fr a (by omega))) ⟨fp, p1⟩) (fun a q1 q2 => (p3 a (by omega)).trans (fr a q2))))
    · exact absurd (hki kd 5 kF (by decide) (Option.some.inj c_157)) (by omega)
  · refine v_lload_n dX1_judgeWhole_133 rfl 3 rfl ?_
    refine v_ldc2 (v := (100)) (by decide +kernel) dX1_judgeWhole_134 ?_
    refine v_lmul dX1_judgeWhole_137 ?_
    refine v_lload dX1_judgeWhole_138 0 rfl ?_
    refine v_ldiv dX1_judgeWhole_140 (fun e9 => by have c9 := Int64.not_le.mp c_130; rw [e9] at c9; exact absurd c9 (by decide)) ?_
    refine v_goto (tgt := 145) dX1_judgeWhole_141 (by decide) ?_
    refine v_lstore (L' := [(8, _), (6, _), (5, _), (4, _), (2, _), (1, _), (0, _)]) dX1_judgeWhole_145 (Nat.le_of_ble_eq_true rfl) rfl ?_
    refine v_aload_n dX1_judgeWhole_147 rfl 6 rfl ?_
    refine v_getf 4 (ci := 0) (C := RX1) (T := TX1) (N := 6) rfl iwX1_judgeWhole_X1 (Nat.le_of_ble_eq_true rfl) (by decide +kernel) dX1_judgeWhole_148 (by first | with_reducible assumption) rfl ?_
    refine v_getf 1 (ci := 5) (C := RX7) (T := TX7) (N := 8) rfl iwX1_judgeWhole_X7 (Nat.le_of_ble_eq_true rfl) (by decide +kernel) dX1_judgeWhole_151 (by first | with_reducible assumption) rfl ?_
    refine v_getk (i := 5) (nm := "DENSITY") (by decide +kernel) (by decide +kernel) dX1_judgeWhole_154 ?_
    refine v_acmp_ne (rx := some (G.2.2.2.2.1 kd)) (ry := some (G.2.2.2.2.1 5)) (tgt := 165) dX1_judgeWhole_157 (by decide) (fun c_157 => ?_) (fun c_157 => ?_)
    · refine v_iload dX1_judgeWhole_165 3 rfl ?_
      refine v_i2l dX1_judgeWhole_167 rfl ?_
      rw [show (nI (cnS ly l1 S S.length)).toInt64 = jN (cnS ly l1 S S.length : Int) from iN_64 (x := (cnS ly l1 S S.length : Int)) (by omega) (by omega)]
      refine v_lstore (L' := [(10, _), (8, _), (6, _), (5, _), (4, _), (2, _), (1, _), (0, _)]) dX1_judgeWhole_168 (Nat.le_of_ble_eq_true rfl) rfl ?_
      refine v_lload dX1_judgeWhole_170 0 rfl ?_
      refine v_aload_n dX1_judgeWhole_172 rfl 7 rfl ?_
      refine v_getf 4 (ci := 0) (C := RX1) (T := TX1) (N := 6) rfl iwX1_judgeWhole_X1 (Nat.le_of_ble_eq_true rfl) (by decide +kernel) dX1_judgeWhole_173 (by first | with_reducible assumption) rfl ?_
      refine v_getf 4 (ci := 5) (C := RX7) (T := TX7) (N := 8) rfl iwX1_judgeWhole_X7 (Nat.le_of_ble_eq_true rfl) (by decide +kernel) dX1_judgeWhole_176 (by first | with_reducible assumption) rfl ?_
      refine v_i2l dX1_judgeWhole_179 rfl ?_
      refine v_lcmp_ge (tgt := 211) dX1_judgeWhole_180 dX1_judgeWhole_181 (by decide) (fun c_181 => ?_) (fun c_181 => ?_)
      · exact v_ret rfl dX1_judgeWhole_211 (Nat.le_of_ble_eq_true rfl) (Nat.le_of_ble_eq_true rfl) (by
              have e8 : mW kd (arS ly ar l1 S S.length) (cnS ly l1 S S.length) (((spn (fun i9 j9 => bxO mp sz X Y (S.getD i9 ([], 0)) j9) S.length) 2 - (spn (fun i9 j9 => bxO mp sz X Y (S.getD i9 ([], 0)) j9) S.length) 0) * ((spn (fun i9 j9 => bxO mp sz X Y (S.getD i9 ([], 0)) j9) S.length) 3 - (spn (fun i9 j9 => bxO mp sz X Y (S.getD i9 ([], 0)) j9) S.length) 1)) = jN (cnS ly l1 S S.length : Int) := if_neg (by omega)
              unfold jWh at hk
              rw [e8] at hk
              first
                | (have c8 := H2
                   have c9 := Int64.not_le.mp c_181
                   rw [Int64.lt_iff_toInt_lt, ← jN_i, jN_to (a := x3.toInt) (by have := x3.le_toInt; omega) (by have := x3.toInt_lt; omega)] at c9
                   rw [if_pos c9] at hk
                   exact hk h2 c8 (N1.frame9 (fun a q1 q2 q3 => (fr2 a (by omega)).trans ((p3 a q3).trans (fr a (by omega)))) ⟨fp, (fr2 _ (by omega)).trans p1⟩) (fun a q1 q2 => (fr2 a q2).trans ((p3 a (by omega)).trans (fr a q2))))
                | (have c9 := c_181
                   rw [Int64.le_iff_toInt_le, ← jN_i, jN_to (a := x3.toInt) (by have := x3.le_toInt; omega) (by have := x3.toInt_lt; omega)] at c9
                   rw [if_neg (Int.not_lt.mpr c9), List.append_nil] at hk
                   exact hk h1 H1 (N1.frame9 (fun a q1 q2 q3 => (p3 a q3).trans (fr a (by omega))) ⟨fp, p1⟩) (fun a q1 q2 => (p3 a (by omega)).trans (fr a q2))))
      · refine v_aload_n dX1_judgeWhole_184 rfl 7 rfl ?_
        refine v_getf 5 (ci := 0) (C := RX1) (T := TX1) (N := 6) rfl iwX1_judgeWhole_X1 (Nat.le_of_ble_eq_true rfl) (by decide +kernel) dX1_judgeWhole_185 (by first | with_reducible assumption) rfl ?_
        refine v_aload dX1_judgeWhole_188 3 rfl ?_
        refine v_iconst (v := 0) dX1_judgeWhole_190 (by decide) ?_
        refine v_ialdS (v := iN ((spn (fun i9 j9 => bxO mp sz X Y (S.getD i9 ([], 0)) j9) S.length) 0)) dX1_judgeWhole_191 (by first | with_reducible assumption) (show vp_in (nI 0) 4 from vp_in_nI (by omega) (by omega)) (p2 0 (by decide)) ?_
        refine v_aload dX1_judgeWhole_192 3 rfl ?_
        refine v_iconst (v := 1) dX1_judgeWhole_194 (by decide) ?_
        refine v_ialdS (v := iN ((spn (fun i9 j9 => bxO mp sz X Y (S.getD i9 ([], 0)) j9) S.length) 1)) dX1_judgeWhole_195 (by first | with_reducible assumption) (show vp_in (nI 1) 4 from vp_in_nI (by omega) (by omega)) (p2 1 (by decide)) ?_
        refine v_aload dX1_judgeWhole_196 3 rfl ?_
        refine v_iconst (v := 2) dX1_judgeWhole_198 (by decide) ?_
        refine v_ialdS (v := iN ((spn (fun i9 j9 => bxO mp sz X Y (S.getD i9 ([], 0)) j9) S.length) 2)) dX1_judgeWhole_199 (by first | with_reducible assumption) (show vp_in (nI 2) 4 from vp_in_nI (by omega) (by omega)) (p2 2 (by decide)) ?_
        refine v_aload dX1_judgeWhole_200 3 rfl ?_
        refine v_iconst (v := 3) dX1_judgeWhole_202 (by decide) ?_
        refine v_ialdS (v := iN ((spn (fun i9 j9 => bxO mp sz X Y (S.getD i9 ([], 0)) j9) S.length) 3)) dX1_judgeWhole_203 (by first | with_reducible assumption) (show vp_in (nI 3) 4 from vp_in_nI (by omega) (by omega)) (p2 3 (by decide)) ?_
        refine v_iconst (v := (-1)) dX1_judgeWhole_204 (by decide) ?_
        refine v_iconst (v := (-1)) dX1_judgeWhole_205 (by decide) ?_
        refine v_lload dX1_judgeWhole_206 0 rfl ?_
        refine v_callVq (M' := mX10_add) (n := 7) (As := [_, _, _, _, _, _, _]) (ci := 8) (r := (RX10, TX10, 7)) gX1_judgeWhole_X10_add rfl (by decide +kernel) ⟨(Nat.le_of_ble_eq_true rfl), (Nat.le_of_ble_eq_true rfl)⟩ rfl rfl dX1_judgeWhole_208 rfl ⟨(Nat.le_of_ble_eq_true rfl), (Nat.le_of_ble_eq_true rfl)⟩ (Nat.le_of_ble_eq_true rfl) (by first | with_reducible assumption) rfl (c_addN G h1 _ t (c : Int) _ H1 ((spn (fun i9 j9 => bxO mp sz X Y (S.getD i9 ([], 0)) j9) S.length) 0) ((spn (fun i9 j9 => bxO mp sz X Y (S.getD i9 ([], 0)) j9) S.length) 1) ((spn (fun i9 j9 => bxO mp sz X Y (S.getD i9 ([], 0)) j9) S.length) 2) ((spn (fun i9 j9 => bxO mp sz X Y (S.getD i9 ([], 0)) j9) S.length) 3) (-1) (-1) _ _ (show bd _ from by unfold bd; omega) (show bd _ from by unfold bd; omega) (show bd _ from by unfold bd; omega) (show bd _ from by unfold bd; omega) (show bd (-1) from by unfold bd; omega) (show bd (-1) from by unfold bd; omega) (show bd _ from by unfold bd; omega) (jN_of _).symm (by decide) (by decide)) (fun v h2 y2 hq9 => ?_)
        obtain ⟨rfl, rfl, H2, fr2⟩ := hq9
        exact v_ret rfl dX1_judgeWhole_211 (Nat.le_of_ble_eq_true rfl) (Nat.le_of_ble_eq_true rfl) (by
              have e8 : mW kd (arS ly ar l1 S S.length) (cnS ly l1 S S.length) (((spn (fun i9 j9 => bxO mp sz X Y (S.getD i9 ([], 0)) j9) S.length) 2 - (spn (fun i9 j9 => bxO mp sz X Y (S.getD i9 ([], 0)) j9) S.length) 0) * ((spn (fun i9 j9 => bxO mp sz X Y (S.getD i9 ([], 0)) j9) S.length) 3 - (spn (fun i9 j9 => bxO mp sz X Y (S.getD i9 ([], 0)) j9) S.length) 1)) = jN (cnS ly l1 S S.length : Int) := if_neg (by omega)
              unfold jWh at hk
              rw [e8] at hk
              first
                | (have c8 := H2
                   have c9 := Int64.not_le.mp c_181
                   rw [Int64.lt_iff_toInt_lt, ← jN_i, jN_to (a := x3.toInt) (by have := x3.le_toInt; omega) (by have := x3.toInt_lt; omega)] at c9
                   rw [if_pos c9] at hk
                   exact hk h2 c8 (N1.frame9 (fun a q1 q2 q3 => (fr2 a (by omega)).trans ((p3 a q3).trans (fr a (by omega)))) ⟨fp, (fr2 _ (by omega)).trans p1⟩) (fun a q1 q2 => (fr2 a q2).trans ((p3 a (by omega)).trans (fr a q2))))
                | (have c9 := c_181
                   rw [Int64.le_iff_toInt_le, ← jN_i, jN_to (a := x3.toInt) (by have := x3.le_toInt; omega) (by have := x3.toInt_lt; omega)] at c9
                   rw [if_neg (Int.not_lt.mpr c9), List.append_nil] at hk
                   exact hk h1 H1 (N1.frame9 (fun a q1 q2 q3 => (p3 a q3).trans (fr a (by omega))) ⟨fp, p1⟩) (fun a q1 q2 => (p3 a (by omega)).trans (fr a q2))))
    · exact absurd (hki kd 5 kF (by decide) (Option.some.inj c_157)) (by omega)

set_option maxHeartbeats 4000000 in
set_option maxRecDepth 100000 in
theorem t_wh12 (G : sv_G) (Qr : Option Value → sv_h → Nat → Prop) (h1 : sv_h) (z b : Nat) (k : Int32) (nc np pl : Nat) (R : Nat → Bool) (hm pa sz : Nat → Nat) (ly vo ar : Nat → Int32) (X Y : Nat → Nat → Int) (fc : Nat → Nat → Nat) (oc : Nat → Nat → Option Nat) (mp : Nat → mvT) (w3 : Bool) (T : List Nat × Nat → Nat → List (Int × Int × Int)) (S : List (List Nat × Nat)) (q t : Nat) (n0 : Int64) (kd : Nat) (l1 l2 x3 x4 x5 x6 : Int32) (G1 : sg_ G b k nc np pl R hm pa sz ly vo ar X Y fc oc mp h1 S) (K1 : sk_ G w3 b sz X Y mp T S S.length h1 h1) (N1 : sn_ G b h1) (hchk : h1 (b + 32) = some (.inr (0, [.ref (b + 1), .ref (b + 35), .ref (b + 33), .ref (b + 34), .ref q, .ref t]))) (hru : h1 q = some (.inr (5, [.long n0, .ref (G.2.2.2.2.1 kd), .int l1, .int l2, .int x3, .int x4, .int x5, .int x6]))) (kF : kd < 11) (hqq : q < b + 32 ∨ (b + 180 ≤ q ∧ q < b + 204)) (hta : b + 204 ≤ t ∧ t + 4 ≤ b + 220) (hib : ∀ i, i < S.length → ∀ f, f < 4 → (∀ x, x < (T (S.getD i ([], 0)) f).length → ib ((T (S.getD i ([], 0)) f).getD x (0, 0, 0))) ∧ st_ T S i (f + 1) ≤ 1600) (c : Nat) (hc : c < 16) (hm0 : Int32) (E0 : List (List Int64)) (H : tE G h1 t hm0 E0) (hki : sv_ki G) (hk56 : kd = 5 ∨ kd = 6) (hk : ∀ h3, tE G h3 t (iN (c : Int)) (E0 ++ jWh kd x3 (c : Int) (arS ly ar l1 S S.length) (cnS ly l1 S S.length) (spn (fun i9 j9 => bxO mp sz X Y (S.getD i9 ([], 0)) j9) S.length)) → sn_ G b h3 → (∀ a, ¬ (b + 35 ≤ a ∧ a < b + 164) → ¬ (t ≤ a ∧ a < t + 4) → h3 a = h1 a) → Qr none h3 z) : V G mX1_judgeWhole (sv_MQ G mX1_judgeWhole Qr) 12 [(0, .ref (b + 32)), (1, .int (nI c))] [] h1 z 0 0 := by
  obtain ⟨x9, us9, sz9, ov9, ht9, hx9, hh9⟩ := H.oh
  refine v_aload_n dX1_judgeWhole_12 rfl 0 rfl ?_
  refine v_getf 5 (ci := 0) (C := RX1) (T := TX1) (N := 6) rfl iwX1_judgeWhole_X1 (Nat.le_of_ble_eq_true rfl) (by decide +kernel) dX1_judgeWhole_13 (by repeat (first | with_reducible assumption | (with_reducible refine sv_us.trans ?_; exact rfl) | with_reducible refine (sv_un (by omega)).trans ?_)) (by exact rfl) ?_
  refine v_iload_n dX1_judgeWhole_16 rfl 1 rfl ?_
  refine v_putf 6 (fs' := [_, _, _, _, _, _, _]) (ci := 8) (C := RX10) (T := TX10) (N := 7) (ty := .int) rfl iwX1_judgeWhole_X10 tyX10 tyX10_ok nmX10 (Nat.le_of_ble_eq_true rfl) (by decide +kernel) rfl rfl dX1_judgeWhole_17 rfl rfl (by repeat (first | with_reducible assumption | (with_reducible refine sv_us.trans ?_; exact rfl) | with_reducible refine (sv_un (by omega)).trans ?_)) (Nat.le_of_ble_eq_true rfl) rfl ?_
  refine v_lconst (v := 0) dX1_judgeWhole_20 (by decide) ?_
  refine v_lstore_n (L' := [(2, _), (0, _), (1, _)]) dX1_judgeWhole_21 rfl (Nat.le_of_ble_eq_true rfl) rfl ?_
  refine v_iconst (v := 0) dX1_judgeWhole_22 (by decide) ?_
  refine v_istore (L' := [(4, _), (2, _), (0, _), (1, _)]) dX1_judgeWhole_23 (Nat.le_of_ble_eq_true rfl) rfl ?_
  refine v_iconst (v := 0) dX1_judgeWhole_25 (by decide) ?_
  refine v_istore (L' := [(5, _), (4, _), (2, _), (0, _), (1, _)]) dX1_judgeWhole_26 (Nat.le_of_ble_eq_true rfl) rfl ?_
  refine v_sub (L' := [(5, _), (4, _), (2, _), (1, _), (0, _)]) [0, 1, 2, 4, 3] rfl ?_
  have K2 : ck_ G w3 b k nc np pl R hm pa sz ly vo ar X Y fc oc mp T S q t n0 kd l1 l2 x3 x4 x5 x6 (va_up h1 t (some (.inr (8, [.ref (t + 1), .int us9, .ref (t + 2 + x9), .ref (t + 3 - x9), .int sz9, .int ov9, .int (nI c)])))) := ⟨G1.frame (fun a p => sv_un (by omega)), K1.frame (fun a p1 p2 => sv_un (by omega)), (sv_un (by omega)).trans hchk, (sv_un (by omega)).trans hru, kF, hqq, hta, hib⟩
  have H2 : tE G (va_up h1 t (some (.inr (8, [.ref (t + 1), .int us9, .ref (t + 2 + x9), .ref (t + 3 - x9), .int sz9, .int ov9, .int (nI c)])))) t (iN (c : Int)) E0 := hh9 (nI c) _ sv_us (fun a p => sv_un p)
  have bc : bd (c : Int) := by unfold bd; omega
  have q0 := l_whL G Qr _ z b k nc np pl R hm pa sz ly vo ar X Y fc oc mp w3 T S q t n0 kd l1 l2 x3 x4 x5 x6 K2 (nI c) _ (fun _ _ => rfl) ?_ S.length 0 (Nat.zero_add _)
  · exact q0
  · rcases hk56 with e9 | e9
    · exact t_wh5 G Qr hki _ z b k nc np pl R hm pa sz ly vo ar X Y fc oc mp w3 T S q t n0 kd l1 l2 x3 x4 x5 x6 K2 e9 c hc (N1.frame (fun a p1 p2 => sv_un (by omega))) _ (fun _ _ => rfl) E0 H2 (fun h3 a1 a2 a3 => hk h3 a1 a2 (fun a p1 p2 => (a3 a p1 p2).trans (sv_un (by omega)))) (nI c)
    · exact t_wh6 G Qr hki _ z b k nc np pl R hm pa sz ly vo ar X Y fc oc mp w3 T S q t n0 kd l1 l2 x3 x4 x5 x6 K2 e9 c hc (N1.frame (fun a p1 p2 => sv_un (by omega))) _ (fun _ _ => rfl) E0 H2 (fun h3 a1 a2 a3 => hk h3 a1 a2 (fun a p1 p2 => (a3 a p1 p2).trans (sv_un (by omega)))) (nI c)

set_option maxHeartbeats 4000000 in
set_option maxRecDepth 100000 in
theorem c_jWhole (G : sv_G) (hki : sv_ki G) (h0 : sv_h) (z b : Nat) (k : Int32) (nc np pl : Nat) (R : Nat → Bool) (hm p3 p4 pa ma sz : Nat → Nat) (ly vo ar : Nat → Int32) (mp : Nat → mvT) (N : Nat → Nat) (Z9 : sx_ G h0 b k nc np pl R hm p3 p4 pa ma sz ly vo ar mp N) (X Y : Nat → Nat → Int) (fc : Nat → Nat → Nat) (oc : Nat → Nat → Option Nat) (PX : px_ G h0 np R pa sz X Y fc oc) (NN9 : sn_ G b h0) (q : Nat) (hqa : q < b + 35 ∨ b + 164 ≤ q) (n0 : Int64) (kd : Nat) (hkd : kd < 11) (l1 l2 x3 x4 x5 x6 : Int32) (hru : h0 q = some (.inr (5, [.long n0, .ref (G.2.2.2.2.1 kd), .int l1, .int l2, .int x3, .int x4, .int x5, .int x6]))) (t : Nat) (hqq : q < b + 32 ∨ (b + 180 ≤ q ∧ q < b + 204)) (hta : b + 204 ≤ t ∧ t + 4 ≤ b + 220) (hchk : h0 (b + 32) = some (.inr (0, [.ref (b + 1), .ref (b + 35), .ref (b + 33), .ref (b + 34), .ref q, .ref t]))) (hm0 : Int32) (E0 : List (List Int64)) (H : tE G h0 t hm0 E0) (hN : ∀ r c, r ≤ 16 → c < nc → oc_n np pl R hm p3 p4 r c ≤ N c) (hk56 : kd = 5 ∨ kd = 6) (c : Nat) (hc : c < nc) (hln : (dS np pl (dQ R hm ly kd l1 l2) p3 p4 16 c []).length ≤ 100) (hS : ∀ i, i < (dS np pl (dQ R hm ly kd l1 l2) p3 p4 16 c []).length → ((dS np pl (dQ R hm ly kd l1 l2) p3 p4 16 c []).getD i ([], 0)).2 < np ∧ R ((dS np pl (dQ R hm ly kd l1 l2) p3 p4 16 c []).getD i ([], 0)).2 = true ∧ cbd (cor mp X Y ((dS np pl (dQ R hm ly kd l1 l2) p3 p4 16 c []).getD i ([], 0))) (sz ((dS np pl (dQ R hm ly kd l1 l2) p3 p4 16 c []).getD i ([], 0)).2)) : CT G mX1_judgeWhole [.ref (b + 32), .int (nI c)] h0 z (fun v h3 z3 => v = none ∧ z3 = z ∧ tE G h3 t (iN (c : Int)) (E0 ++ jWh kd x3 (c : Int) (arS ly ar l1 (dS np pl (dQ R hm ly kd l1 l2) p3 p4 16 c []) (dS np pl (dQ R hm ly kd l1 l2) p3 p4 16 c []).length) (cnS ly l1 (dS np pl (dQ R hm ly kd l1 l2) p3 p4 16 c []) (dS np pl (dQ R hm ly kd l1 l2) p3 p4 16 c []).length) (spn (fun i9 j9 => bxO mp sz X Y ((dS np pl (dQ R hm ly kd l1 l2) p3 p4 16 c []).getD i9 ([], 0)) j9) (dS np pl (dQ R hm ly kd l1 l2) p3 p4 16 c []).length)) ∧ sn_ G b h3 ∧ ∀ a, ¬ (b + 35 ≤ a ∧ a < b + 164) → ¬ (t ≤ a ∧ a < t + 4) → h3 a = h0 a) := by
  refine CT.of (by decide +kernel) rfl rfl (Nat.le_of_ble_eq_true rfl) ?_
  have hmany : ¬ (kd < 7 ∧ kd ≠ 5 ∧ kd ≠ 6) := by omega
  have hsc : ∀ i, i < (dS np pl (dQ R hm ly kd l1 l2) p3 p4 16 c []).length → ∀ f, f < 4 → (∀ x, x < ((sideL mp sz X Y fc) ((dS np pl (dQ R hm ly kd l1 l2) p3 p4 16 c []).getD i ([], 0)) f).length → ib (((sideL mp sz X Y fc) ((dS np pl (dQ R hm ly kd l1 l2) p3 p4 16 c []).getD i ([], 0)) f).getD x (0, 0, 0))) ∧ st_ (sideL mp sz X Y fc) (dS np pl (dQ R hm ly kd l1 l2) p3 p4 16 c []) i (f + 1) ≤ 1600 := fun i hi f hf => ⟨fun x hx => sideL_ib (hS i hi).2.2 hx, st_1600 hln (fun j hj => Nat.le_trans (tt_side _) (by obtain ⟨_, _, _, _, _, _, g7, _⟩ := id Z9; exact (g7 _ (hS j hj).1).2.2.2)) hi hf⟩
  obtain ⟨nn, hn35⟩ := id NN9.1
  have hc16 : c < 16 := by obtain ⟨_, _, _, _, _, _, _, _, g9, _⟩ := id Z9; omega
  refine v_aload_n dX1_judgeWhole_0 rfl 0 rfl ?_
  refine v_getf 1 (ci := 0) (C := RX1) (T := TX1) (N := 6) rfl iwX1_judgeWhole_X1 (Nat.le_of_ble_eq_true rfl) (by decide +kernel) dX1_judgeWhole_1 (by repeat (first | with_reducible assumption | (with_reducible refine sv_us.trans ?_; exact rfl) | with_reducible refine (sv_un (by omega)).trans ?_)) (by exact rfl) ?_
  refine v_iload_n dX1_judgeWhole_4 rfl 1 rfl ?_
  refine v_aload_n dX1_judgeWhole_5 rfl 0 rfl ?_
  refine v_getf 4 (ci := 0) (C := RX1) (T := TX1) (N := 6) rfl iwX1_judgeWhole_X1 (Nat.le_of_ble_eq_true rfl) (by decide +kernel) dX1_judgeWhole_6 (by repeat (first | with_reducible assumption | (with_reducible refine sv_us.trans ?_; exact rfl) | with_reducible refine (sv_un (by omega)).trans ?_)) (by exact rfl) ?_
  refine v_callVq (M' := mX8_gather) (n := 2) (As := [_, _]) (ci := 6) (r := (RX8, TX8, 14)) gX1_judgeWhole_X8_gather rfl (by decide +kernel) ⟨(Nat.le_of_ble_eq_true rfl), (Nat.le_of_ble_eq_true rfl)⟩ rfl rfl dX1_judgeWhole_9 rfl ⟨(Nat.le_of_ble_eq_true rfl), (Nat.le_of_ble_eq_true rfl)⟩ (Nat.le_of_ble_eq_true rfl) (by repeat (first | with_reducible assumption | (with_reducible refine sv_us.trans ?_; exact rfl) | with_reducible refine (sv_un (by omega)).trans ?_)) rfl (c_gathers G hki h0 _ b k nc np pl R hm p3 p4 pa ma sz ly vo ar mp N Z9 X Y fc oc PX NN9 q hqa n0 kd hkd l1 l2 x3 x4 x5 x6 hru (by omega) hN hmany c hc hln hS) (fun v h1 z1 hq9 => ?_)
  obtain ⟨rfl, rfl, G1, K1, N1, F1⟩ := hq9
  exact t_wh12 G _ h1 _ b k nc np pl R hm pa sz ly vo ar X Y fc oc mp true (sideL mp sz X Y fc) (dS np pl (dQ R hm ly kd l1 l2) p3 p4 16 c []) q t n0 kd l1 l2 x3 x4 x5 x6 G1 K1 N1 ((F1 _ (by omega)).trans hchk) ((F1 _ (by omega)).trans hru) hkd hqq hta hsc c hc16 hm0 E0 (H.kept (fun a p1 p2 => F1 a (by omega))) hki hk56 (fun h3 e3 e4 e5 => ⟨rfl, rfl, e3, e4, fun a p1 p2 => (e5 a p1 p2).trans (F1 a p1)⟩)

