set_option maxHeartbeats 4000000 in
set_option maxRecDepth 100000 in
theorem t_en52 (G : sv_G) (hki : sv_ki G) (hb : sv_h) (z b : Nat) (k : Int32) (nc np pl : Nat) (R : Nat → Bool) (hm pa sz : Nat → Nat) (ly vo ar : Nat → Int32) (X Y : Nat → Nat → Int) (fc : Nat → Nat → Nat) (oc : Nat → Nat → Option Nat) (mp : Nat → mvT) (w3 : Bool) (T : List Nat × Nat → Nat → List (Int × Int × Int)) (S : List (List Nat × Nat)) (q t : Nat) (n0 : Int64) (kd : Nat) (l1 l2 x3 x4 x5 x6 : Int32) (K : ck_ G w3 b k nc np pl R hm pa sz ly vo ar X Y fc oc mp T S q t n0 kd l1 l2 x3 x4 x5 x6 hb) (hw : w3 = true) (hmI : Int) (hbm : bd hmI) (i : Nat) (hi : i < S.length) (j : Nat) (hj : j < S.length) (h : sv_h) (fr : ∀ a, ¬ (t ≤ a ∧ a < t + 4) → h a = hb a) (E0 : List (List Int64)) (H : tE G h t (iN hmI) E0) (hcc : ly (S.getD i ([], 0)).2 = l1 ∧ ly (S.getD j ([], 0)).2 = l2) : V G mX1_judgeEnclosing (sv_MQ G mX1_judgeEnclosing (fun v h1 z1 => v = none ∧ z1 = z ∧ tE G h1 t (iN hmI) (E0 ++ (jEn kd x3 x4 x6 hmI T S ly l1 l2 i j)) ∧ ∀ a, ¬ (t ≤ a ∧ a < t + 4) → h1 a = hb a)) 52 [(0, .ref (b + 32)), (1, .int (nI i)), (2, .int (nI j))] [] h z 0 0 := by
  obtain ⟨Z, ⟨⟨fb, fcx, fcy, k1, k2, k3, k4⟩, ⟨fs9, fa, fr9, ft, k5, k6, k7, k8, k9, kA, kB⟩, ⟨fsp, kC⟩, _⟩, kD, kE, kF, kG, kH, kI⟩ := id K
  obtain ⟨z0, z1, ⟨fs, z2, z3⟩, ⟨fb_, z4, z5⟩, ⟨fl, z6, z7⟩, z8, z9, ⟨fq, zA, zB⟩, zC, zD, zE, zF⟩ := id Z
  have w1 := (fr (b + 35) (by omega)).trans z1
  have w2 : ab_I G h (b + 37) 100 fs := (fr _ (by omega)).trans z2
  have w4 : ab_I G h (b + 38) 100 fb_ := (fr _ (by omega)).trans z4
  have w6 : ab_Q G h (b + 39) 3 100 fl := (fr _ (by omega)).trans z6
  have w9 := (fr (b + 1) (by omega)).trans z9
  have wA : ab_Q G h (b + 2) 4 64 fq := (fr _ (by omega)).trans zA
  have wB : ab_I G h (b + 40) 400 fb := (fr _ (by omega)).trans k1
  have wC : ab_I G h (b + 44) 401 fs9 := (fr _ (by omega)).trans k5
  have wD : ab_I G h (b + 45) 1600 fa := (fr _ (by omega)).trans k6
  have wE : ab_I G h (b + 46) 1600 fr9 := (fr _ (by omega)).trans k7
  have wF : ab_I G h (b + 47) 1600 ft := (fr _ (by omega)).trans k8
  have wG := (fr (b + 32) (by omega)).trans kD
  have wH := (fr q (by omega)).trans kE
  refine v_aload_n dX1_judgeEnclosing_52 rfl 0 rfl ?_
  refine v_getf 1 (ci := 0) (C := RX1) (T := TX1) (N := 6) rfl iwX1_judgeEnclosing_X1 (Nat.le_of_ble_eq_true rfl) (by decide +kernel) dX1_judgeEnclosing_53 (by first | with_reducible assumption) rfl ?_
  refine v_getf 3 (ci := 6) (C := RX8) (T := TX8) (N := 14) rfl iwX1_judgeEnclosing_X8 (Nat.le_of_ble_eq_true rfl) (by decide +kernel) dX1_judgeEnclosing_56 (by first | with_reducible assumption) rfl ?_
  refine v_iload_n dX1_judgeEnclosing_59 rfl 1 rfl ?_
  refine v_ialdS (v := nI (S.getD i ([], 0)).2) dX1_judgeEnclosing_60 (by first | with_reducible assumption) (vp_in_nI (by omega) (by omega)) (by rw [nI_clamp (by omega)]; exact z3 i hi) ?_
  refine v_istore (L' := [(4, _), (0, _), (1, _), (2, _)]) dX1_judgeEnclosing_61 (Nat.le_of_ble_eq_true rfl) rfl ?_
  refine v_aload_n dX1_judgeEnclosing_63 rfl 1 rfl ?_
  refine v_getf 1 (ci := 0) (C := RX1) (T := TX1) (N := 6) rfl iwX1_judgeEnclosing_X1 (Nat.le_of_ble_eq_true rfl) (by decide +kernel) dX1_judgeEnclosing_64 (by first | with_reducible assumption) rfl ?_
  refine v_getf 3 (ci := 6) (C := RX8) (T := TX8) (N := 14) rfl iwX1_judgeEnclosing_X8 (Nat.le_of_ble_eq_true rfl) (by decide +kernel) dX1_judgeEnclosing_67 (by first | with_reducible assumption) rfl ?_
  refine v_iload_n dX1_judgeEnclosing_70 rfl 3 rfl ?_
  refine v_ialdS (v := nI (S.getD j ([], 0)).2) dX1_judgeEnclosing_71 (by first | with_reducible assumption) (vp_in_nI (by omega) (by omega)) (by rw [nI_clamp (by omega)]; exact z3 j hj) ?_
  refine v_istore (L' := [(5, _), (4, _), (0, _), (1, _), (2, _)]) dX1_judgeEnclosing_72 (Nat.le_of_ble_eq_true rfl) rfl ?_
  refine v_aload_n dX1_judgeEnclosing_74 rfl 2 rfl ?_
  refine v_iload_n dX1_judgeEnclosing_75 rfl 3 rfl ?_
  refine v_iconst (v := 0) dX1_judgeEnclosing_76 (by decide) ?_
  refine v_iload_n dX1_judgeEnclosing_77 rfl 4 rfl ?_
  refine v_iconst (v := 0) dX1_judgeEnclosing_78 (by decide) ?_
  refine v_iload dX1_judgeEnclosing_79 1 rfl ?_
  refine v_iload dX1_judgeEnclosing_81 0 rfl ?_
  refine v_callVq (M' := mX1_across) (n := 6) (As := [_, _, _, _, _, _]) (ci := 0) (r := (RX1, TX1, 6)) gX1_judgeEnclosing_X1_across rfl (by decide +kernel) ⟨(Nat.le_of_ble_eq_true rfl), (Nat.le_of_ble_eq_true rfl)⟩ rfl rfl dX1_judgeEnclosing_83 rfl ⟨(Nat.le_of_ble_eq_true rfl), (Nat.le_of_ble_eq_true rfl)⟩ (Nat.le_of_ble_eq_true rfl) (by first | with_reducible assumption) rfl (c_acrossN G hki hb _ b k nc np pl R hm pa sz ly vo ar X Y fc oc mp w3 T S q t n0 kd l1 l2 x3 x4 x5 x6 K hw hmI hbm ((S.getD i ([], 0)).2 : Int) ((S.getD j ([], 0)).2 : Int) (show bd ((S.getD i ([], 0)).2 : Int) from by have := (zE i hi).1; unfold bd; omega) (show bd ((S.getD j ([], 0)).2 : Int) from by have := (zE j hj).1; unfold bd; omega) i hi 0 (by decide) j hj 0 (by decide) _ fr _ H (by decide) (by decide) rfl rfl) (fun v h1 y1 hq9 => ?_)
  obtain ⟨rfl, rfl, H1, fr1⟩ := hq9
  have w11 := (fr1 (b + 35) (by omega)).trans z1
  have w21 : ab_I G h1 (b + 37) 100 fs := (fr1 _ (by omega)).trans z2
  have wG1 := (fr1 (b + 32) (by omega)).trans kD
  have wH1 := (fr1 q (by omega)).trans kE
  refine v_aload_n dX1_judgeEnclosing_86 rfl 2 rfl ?_
  refine v_iload_n dX1_judgeEnclosing_87 rfl 3 rfl ?_
  refine v_iconst (v := 1) dX1_judgeEnclosing_88 (by decide) ?_
  refine v_iload_n dX1_judgeEnclosing_89 rfl 4 rfl ?_
  refine v_iconst (v := 1) dX1_judgeEnclosing_90 (by decide) ?_
  refine v_iload dX1_judgeEnclosing_91 1 rfl ?_
  refine v_iload dX1_judgeEnclosing_93 0 rfl ?_
  refine v_callVq (M' := mX1_across) (n := 6) (As := [_, _, _, _, _, _]) (ci := 0) (r := (RX1, TX1, 6)) gX1_judgeEnclosing_X1_across rfl (by decide +kernel) ⟨(Nat.le_of_ble_eq_true rfl), (Nat.le_of_ble_eq_true rfl)⟩ rfl rfl dX1_judgeEnclosing_95 rfl ⟨(Nat.le_of_ble_eq_true rfl), (Nat.le_of_ble_eq_true rfl)⟩ (Nat.le_of_ble_eq_true rfl) (by first | with_reducible assumption) rfl (c_acrossN G hki hb _ b k nc np pl R hm pa sz ly vo ar X Y fc oc mp w3 T S q t n0 kd l1 l2 x3 x4 x5 x6 K hw hmI hbm ((S.getD i ([], 0)).2 : Int) ((S.getD j ([], 0)).2 : Int) (show bd ((S.getD i ([], 0)).2 : Int) from by have := (zE i hi).1; unfold bd; omega) (show bd ((S.getD j ([], 0)).2 : Int) from by have := (zE j hj).1; unfold bd; omega) i hi 1 (by decide) j hj 1 (by decide) _ fr1 _ H1 (by decide) (by decide) rfl rfl) (fun v h2 y2 hq9 => ?_)
  obtain ⟨rfl, rfl, H2, fr2⟩ := hq9
  have w12 := (fr2 (b + 35) (by omega)).trans z1
  have w22 : ab_I G h2 (b + 37) 100 fs := (fr2 _ (by omega)).trans z2
  have wG2 := (fr2 (b + 32) (by omega)).trans kD
  have wH2 := (fr2 q (by omega)).trans kE
  refine v_aload_n dX1_judgeEnclosing_98 rfl 2 rfl ?_
  refine v_iload_n dX1_judgeEnclosing_99 rfl 4 rfl ?_
  refine v_iconst (v := 2) dX1_judgeEnclosing_100 (by decide) ?_
  refine v_iload_n dX1_judgeEnclosing_101 rfl 3 rfl ?_
  refine v_iconst (v := 2) dX1_judgeEnclosing_102 (by decide) ?_
  refine v_iload dX1_judgeEnclosing_103 1 rfl ?_
  refine v_iload dX1_judgeEnclosing_105 0 rfl ?_
  refine v_callVq (M' := mX1_across) (n := 6) (As := [_, _, _, _, _, _]) (ci := 0) (r := (RX1, TX1, 6)) gX1_judgeEnclosing_X1_across rfl (by decide +kernel) ⟨(Nat.le_of_ble_eq_true rfl), (Nat.le_of_ble_eq_true rfl)⟩ rfl rfl dX1_judgeEnclosing_107 rfl ⟨(Nat.le_of_ble_eq_true rfl), (Nat.le_of_ble_eq_true rfl)⟩ (Nat.le_of_ble_eq_true rfl) (by first | with_reducible assumption) rfl (c_acrossN G hki hb _ b k nc np pl R hm pa sz ly vo ar X Y fc oc mp w3 T S q t n0 kd l1 l2 x3 x4 x5 x6 K hw hmI hbm ((S.getD i ([], 0)).2 : Int) ((S.getD j ([], 0)).2 : Int) (show bd ((S.getD i ([], 0)).2 : Int) from by have := (zE i hi).1; unfold bd; omega) (show bd ((S.getD j ([], 0)).2 : Int) from by have := (zE j hj).1; unfold bd; omega) j hj 2 (by decide) i hi 2 (by decide) _ fr2 _ H2 (by decide) (by decide) rfl rfl) (fun v h3 y3 hq9 => ?_)
  obtain ⟨rfl, rfl, H3, fr3⟩ := hq9
  have w13 := (fr3 (b + 35) (by omega)).trans z1
  have w23 : ab_I G h3 (b + 37) 100 fs := (fr3 _ (by omega)).trans z2
  have wG3 := (fr3 (b + 32) (by omega)).trans kD
  have wH3 := (fr3 q (by omega)).trans kE
  refine v_aload_n dX1_judgeEnclosing_110 rfl 2 rfl ?_
  refine v_iload_n dX1_judgeEnclosing_111 rfl 4 rfl ?_
  refine v_iconst (v := 3) dX1_judgeEnclosing_112 (by decide) ?_
  refine v_iload_n dX1_judgeEnclosing_113 rfl 3 rfl ?_
  refine v_iconst (v := 3) dX1_judgeEnclosing_114 (by decide) ?_
  refine v_iload dX1_judgeEnclosing_115 1 rfl ?_
  refine v_iload dX1_judgeEnclosing_117 0 rfl ?_
  refine v_callVq (M' := mX1_across) (n := 6) (As := [_, _, _, _, _, _]) (ci := 0) (r := (RX1, TX1, 6)) gX1_judgeEnclosing_X1_across rfl (by decide +kernel) ⟨(Nat.le_of_ble_eq_true rfl), (Nat.le_of_ble_eq_true rfl)⟩ rfl rfl dX1_judgeEnclosing_119 rfl ⟨(Nat.le_of_ble_eq_true rfl), (Nat.le_of_ble_eq_true rfl)⟩ (Nat.le_of_ble_eq_true rfl) (by first | with_reducible assumption) rfl (c_acrossN G hki hb _ b k nc np pl R hm pa sz ly vo ar X Y fc oc mp w3 T S q t n0 kd l1 l2 x3 x4 x5 x6 K hw hmI hbm ((S.getD i ([], 0)).2 : Int) ((S.getD j ([], 0)).2 : Int) (show bd ((S.getD i ([], 0)).2 : Int) from by have := (zE i hi).1; unfold bd; omega) (show bd ((S.getD j ([], 0)).2 : Int) from by have := (zE j hj).1; unfold bd; omega) j hj 3 (by decide) i hi 3 (by decide) _ fr3 _ H3 (by decide) (by decide) rfl rfl) (fun v h4 y4 hq9 => ?_)
  obtain ⟨rfl, rfl, H4, fr4⟩ := hq9
  have w14 := (fr4 (b + 35) (by omega)).trans z1
  have w24 : ab_I G h4 (b + 37) 100 fs := (fr4 _ (by omega)).trans z2
  have wG4 := (fr4 (b + 32) (by omega)).trans kD
  have wH4 := (fr4 q (by omega)).trans kE
  exact v_ret rfl dX1_judgeEnclosing_122 (Nat.le_of_ble_eq_true rfl) (Nat.le_of_ble_eq_true rfl) (by
        unfold jEn
        rw [if_pos hcc, ← List.append_assoc, ← List.append_assoc, ← List.append_assoc]
        exact ⟨rfl, rfl, H4, fr4⟩)

set_option maxHeartbeats 4000000 in
set_option maxRecDepth 100000 in
theorem c_jEnclose (G : sv_G) (hki : sv_ki G) (hb : sv_h) (z b : Nat) (k : Int32) (nc np pl : Nat) (R : Nat → Bool) (hm pa sz : Nat → Nat) (ly vo ar : Nat → Int32) (X Y : Nat → Nat → Int) (fc : Nat → Nat → Nat) (oc : Nat → Nat → Option Nat) (mp : Nat → mvT) (w3 : Bool) (T : List Nat × Nat → Nat → List (Int × Int × Int)) (S : List (List Nat × Nat)) (q t : Nat) (n0 : Int64) (kd : Nat) (l1 l2 x3 x4 x5 x6 : Int32) (K : ck_ G w3 b k nc np pl R hm pa sz ly vo ar X Y fc oc mp T S q t n0 kd l1 l2 x3 x4 x5 x6 hb) (hw : w3 = true) (hmI : Int) (hbm : bd hmI) (i : Nat) (hi : i < S.length) (j : Nat) (hj : j < S.length) (h : sv_h) (fr : ∀ a, ¬ (t ≤ a ∧ a < t + 4) → h a = hb a) (E0 : List (List Int64)) (H : tE G h t (iN hmI) E0) : CT G mX1_judgeEnclosing [.ref (b + 32), .int (nI i), .int (nI j)] h z (fun v h1 z1 => v = none ∧ z1 = z ∧ tE G h1 t (iN hmI) (E0 ++ (jEn kd x3 x4 x6 hmI T S ly l1 l2 i j)) ∧ ∀ a, ¬ (t ≤ a ∧ a < t + 4) → h1 a = hb a) := by
  refine CT.of (by decide +kernel) rfl rfl (Nat.le_of_ble_eq_true rfl) ?_
  obtain ⟨Z, ⟨⟨fb, fcx, fcy, k1, k2, k3, k4⟩, ⟨fs9, fa, fr9, ft, k5, k6, k7, k8, k9, kA, kB⟩, ⟨fsp, kC⟩, _⟩, kD, kE, kF, kG, kH, kI⟩ := id K
  obtain ⟨z0, z1, ⟨fs, z2, z3⟩, ⟨fb_, z4, z5⟩, ⟨fl, z6, z7⟩, z8, z9, ⟨fq, zA, zB⟩, zC, zD, zE, zF⟩ := id Z
  have w1 := (fr (b + 35) (by omega)).trans z1
  have w2 : ab_I G h (b + 37) 100 fs := (fr _ (by omega)).trans z2
  have w4 : ab_I G h (b + 38) 100 fb_ := (fr _ (by omega)).trans z4
  have w6 : ab_Q G h (b + 39) 3 100 fl := (fr _ (by omega)).trans z6
  have w9 := (fr (b + 1) (by omega)).trans z9
  have wA : ab_Q G h (b + 2) 4 64 fq := (fr _ (by omega)).trans zA
  have wB : ab_I G h (b + 40) 400 fb := (fr _ (by omega)).trans k1
  have wC : ab_I G h (b + 44) 401 fs9 := (fr _ (by omega)).trans k5
  have wD : ab_I G h (b + 45) 1600 fa := (fr _ (by omega)).trans k6
  have wE : ab_I G h (b + 46) 1600 fr9 := (fr _ (by omega)).trans k7
  have wF : ab_I G h (b + 47) 1600 ft := (fr _ (by omega)).trans k8
  have wG := (fr (b + 32) (by omega)).trans kD
  have wH := (fr q (by omega)).trans kE
  obtain ⟨c1i, c2i⟩ := zC _ (zE i hi).1
  have p1i := (fr (pa (S.getD i ([], 0)).2) (by omega)).trans c1i
  obtain ⟨c1j, c2j⟩ := zC _ (zE j hj).1
  have p1j := (fr (pa (S.getD j ([], 0)).2) (by omega)).trans c1j
  refine v_aload_n dX1_judgeEnclosing_0 rfl 0 rfl ?_
  refine v_getf 1 (ci := 0) (C := RX1) (T := TX1) (N := 6) rfl iwX1_judgeEnclosing_X1 (Nat.le_of_ble_eq_true rfl) (by decide +kernel) dX1_judgeEnclosing_1 (by first | with_reducible assumption) rfl ?_
  refine v_iload_n dX1_judgeEnclosing_4 rfl 1 rfl ?_
  refine v_callVq (M' := mX8_polygonOf) (n := 1) (As := [_]) (ci := 6) (r := (RX8, TX8, 14)) gX1_judgeEnclosing_X8_polygonOf rfl (by decide +kernel) ⟨(Nat.le_of_ble_eq_true rfl), (Nat.le_of_ble_eq_true rfl)⟩ rfl rfl dX1_judgeEnclosing_5 rfl ⟨(Nat.le_of_ble_eq_true rfl), (Nat.le_of_ble_eq_true rfl)⟩ (Nat.le_of_ble_eq_true rfl) (by first | with_reducible assumption) rfl (c_polyK G hb _ b k nc np pl R hm pa sz ly vo ar X Y fc oc mp w3 T S q t n0 kd l1 l2 x3 x4 x5 x6 K h fr i hi) (fun v9 h9 y9 hq => v_pq hq ?_)
  refine v_getf 1 (ci := 3) (C := RX5) (T := TX5) (N := 10) rfl iwX1_judgeEnclosing_X5 (Nat.le_of_ble_eq_true rfl) (by decide +kernel) dX1_judgeEnclosing_8 (by first | with_reducible assumption) rfl ?_
  refine v_aload_n dX1_judgeEnclosing_11 rfl 0 rfl ?_
  refine v_getf 4 (ci := 0) (C := RX1) (T := TX1) (N := 6) rfl iwX1_judgeEnclosing_X1 (Nat.le_of_ble_eq_true rfl) (by decide +kernel) dX1_judgeEnclosing_12 (by first | with_reducible assumption) rfl ?_
  refine v_getf 2 (ci := 5) (C := RX7) (T := TX7) (N := 8) rfl iwX1_judgeEnclosing_X7 (Nat.le_of_ble_eq_true rfl) (by decide +kernel) dX1_judgeEnclosing_15 (by first | with_reducible assumption) rfl ?_
  refine v_icmp_ne (tgt := 46) dX1_judgeEnclosing_18 (by decide) (fun c_18 => ?_) (fun c_18 => ?_)
  · refine v_iconst (v := 0) dX1_judgeEnclosing_46 (by decide) ?_
    refine v_istore_n (L' := [(3, _), (0, _), (1, _), (2, _)]) dX1_judgeEnclosing_47 rfl (Nat.le_of_ble_eq_true rfl) rfl ?_
    refine v_iload_n dX1_judgeEnclosing_48 rfl 0 rfl ?_
    refine v_if_eq (tgt := 122) dX1_judgeEnclosing_49 (by decide) (fun c_49 => ?_) (fun c_49 => ?_)
    · first
        | exact absurd c_49 (by decide)
        | (refine v_ret rfl dX1_judgeEnclosing_122 (Nat.le_of_ble_eq_true rfl) (Nat.le_of_ble_eq_true rfl) ⟨rfl, rfl, ?_, fr⟩; unfold jEn; rw [if_neg (fun r9 => (by first | exact c_18 r9.1 | exact c_39 r9.2)), List.append_nil]; exact H)
    · first
        | exact absurd rfl c_49
        | (refine v_sub (L' := [(0, _), (1, _), (2, _)]) [1, 2, 3] rfl ?_; exact t_en52 G hki hb _ b k nc np pl R hm pa sz ly vo ar X Y fc oc mp w3 T S q t n0 kd l1 l2 x3 x4 x5 x6 K hw hmI hbm i hi j hj h fr E0 H ⟨c_18, c_39⟩)
  · refine v_aload_n dX1_judgeEnclosing_21 rfl 0 rfl ?_
    refine v_getf 1 (ci := 0) (C := RX1) (T := TX1) (N := 6) rfl iwX1_judgeEnclosing_X1 (Nat.le_of_ble_eq_true rfl) (by decide +kernel) dX1_judgeEnclosing_22 (by first | with_reducible assumption) rfl ?_
    refine v_iload_n dX1_judgeEnclosing_25 rfl 2 rfl ?_
    refine v_callVq (M' := mX8_polygonOf) (n := 1) (As := [_]) (ci := 6) (r := (RX8, TX8, 14)) gX1_judgeEnclosing_X8_polygonOf rfl (by decide +kernel) ⟨(Nat.le_of_ble_eq_true rfl), (Nat.le_of_ble_eq_true rfl)⟩ rfl rfl dX1_judgeEnclosing_26 rfl ⟨(Nat.le_of_ble_eq_true rfl), (Nat.le_of_ble_eq_true rfl)⟩ (Nat.le_of_ble_eq_true rfl) (by first | with_reducible assumption) rfl (c_polyK G hb _ b k nc np pl R hm pa sz ly vo ar X Y fc oc mp w3 T S q t n0 kd l1 l2 x3 x4 x5 x6 K h fr j hj) (fun v9 h9 y9 hq => v_pq hq ?_)
    refine v_getf 1 (ci := 3) (C := RX5) (T := TX5) (N := 10) rfl iwX1_judgeEnclosing_X5 (Nat.le_of_ble_eq_true rfl) (by decide +kernel) dX1_judgeEnclosing_29 (by first | with_reducible assumption) rfl ?_
    refine v_aload_n dX1_judgeEnclosing_32 rfl 0 rfl ?_
    refine v_getf 4 (ci := 0) (C := RX1) (T := TX1) (N := 6) rfl iwX1_judgeEnclosing_X1 (Nat.le_of_ble_eq_true rfl) (by decide +kernel) dX1_judgeEnclosing_33 (by first | with_reducible assumption) rfl ?_
    refine v_getf 3 (ci := 5) (C := RX7) (T := TX7) (N := 8) rfl iwX1_judgeEnclosing_X7 (Nat.le_of_ble_eq_true rfl) (by decide +kernel) dX1_judgeEnclosing_36 (by first | with_reducible assumption) rfl ?_
    refine v_icmp_ne (tgt := 46) dX1_judgeEnclosing_39 (by decide) (fun c_39 => ?_) (fun c_39 => ?_)
    · refine v_iconst (v := 0) dX1_judgeEnclosing_46 (by decide) ?_
      refine v_istore_n (L' := [(3, _), (0, _), (1, _), (2, _)]) dX1_judgeEnclosing_47 rfl (Nat.le_of_ble_eq_true rfl) rfl ?_
      refine v_iload_n dX1_judgeEnclosing_48 rfl 0 rfl ?_
      refine v_if_eq (tgt := 122) dX1_judgeEnclosing_49 (by decide) (fun c_49 => ?_) (fun c_49 => ?_)
      · first
          | exact absurd c_49 (by decide)
          | (refine v_ret rfl dX1_judgeEnclosing_122 (Nat.le_of_ble_eq_true rfl) (Nat.le_of_ble_eq_true rfl) ⟨rfl, rfl, ?_, fr⟩; unfold jEn; rw [if_neg (fun r9 => (by first | exact c_18 r9.1 | exact c_39 r9.2)), List.append_nil]; exact H)
      · first
          | exact absurd rfl c_49
          | (refine v_sub (L' := [(0, _), (1, _), (2, _)]) [1, 2, 3] rfl ?_; exact t_en52 G hki hb _ b k nc np pl R hm pa sz ly vo ar X Y fc oc mp w3 T S q t n0 kd l1 l2 x3 x4 x5 x6 K hw hmI hbm i hi j hj h fr E0 H ⟨c_18, c_39⟩)
    · refine v_iconst (v := 1) dX1_judgeEnclosing_42 (by decide) ?_
      refine v_goto (tgt := 47) dX1_judgeEnclosing_43 (by decide) ?_
      refine v_istore_n (L' := [(3, _), (0, _), (1, _), (2, _)]) dX1_judgeEnclosing_47 rfl (Nat.le_of_ble_eq_true rfl) rfl ?_
      refine v_iload_n dX1_judgeEnclosing_48 rfl 0 rfl ?_
      refine v_if_eq (tgt := 122) dX1_judgeEnclosing_49 (by decide) (fun c_49 => ?_) (fun c_49 => ?_)
      · first
          | exact absurd c_49 (by decide)
          | (refine v_ret rfl dX1_judgeEnclosing_122 (Nat.le_of_ble_eq_true rfl) (Nat.le_of_ble_eq_true rfl) ⟨rfl, rfl, ?_, fr⟩; unfold jEn; rw [if_neg (fun r9 => (by first | exact c_18 r9.1 | exact c_39 r9.2)), List.append_nil]; exact H)
      · first
          | exact absurd rfl c_49
          | (refine v_sub (L' := [(0, _), (1, _), (2, _)]) [1, 2, 3] rfl ?_; exact t_en52 G hki hb _ b k nc np pl R hm pa sz ly vo ar X Y fc oc mp w3 T S q t n0 kd l1 l2 x3 x4 x5 x6 K hw hmI hbm i hi j hj h fr E0 H ⟨c_18, c_39⟩)

