set_option maxHeartbeats 4000000 in
set_option maxRecDepth 100000 in
theorem c_jSpace (G : sv_G) (hki : sv_ki G) (hb : sv_h) (z b : Nat) (k : Int32) (nc np pl : Nat) (R : Nat → Bool) (hm pa sz : Nat → Nat) (ly vo ar : Nat → Int32) (X Y : Nat → Nat → Int) (fc : Nat → Nat → Nat) (oc : Nat → Nat → Option Nat) (mp : Nat → mvT) (w3 : Bool) (T : List Nat × Nat → Nat → List (Int × Int × Int)) (S : List (List Nat × Nat)) (q t : Nat) (n0 : Int64) (kd : Nat) (l1 l2 x3 x4 x5 x6 : Int32) (K : ck_ G w3 b k nc np pl R hm pa sz ly vo ar X Y fc oc mp T S q t n0 kd l1 l2 x3 x4 x5 x6 hb) (hw : w3 = true) (hmI : Int) (hbm : bd hmI) (i : Nat) (hi : i < S.length) (j : Nat) (hj : j < S.length) (h : sv_h) (fr : ∀ a, ¬ (t ≤ a ∧ a < t + 4) → h a = hb a) (E0 : List (List Int64)) (H : tE G h t (iN hmI) E0) : CT G mX1_judgeSpace [.ref (b + 32), .int (nI i), .int (nI j)] h z (fun v h1 z1 => v = none ∧ z1 = z ∧ tE G h1 t (iN hmI) (E0 ++ (jSp kd x3 x4 x6 hmI T S i j)) ∧ ∀ a, ¬ (t ≤ a ∧ a < t + 4) → h1 a = hb a) := by
  refine CT.of (by decide +kernel) rfl rfl (Nat.le_of_ble_eq_true rfl) ?_
  obtain ⟨Z, ⟨⟨fb, fcx, fcy, k1, k2, k3, k4⟩, ⟨fs9, fa, fr9, ft, k5, k6, k7, k8, k9, kA, kB⟩, ⟨fsp, kC⟩, _⟩, kD, kE, kF, kG, kH, kI⟩ := id K
  obtain ⟨z0, z1, ⟨fs, z2, z3⟩, ⟨fb_, z4, z5⟩, ⟨fl, z6, z7⟩, z8, z9, ⟨fq, zA, zB⟩, zC, zD, zE, zF⟩ := id Z
  have w1 := (fr (b + 35) (by omega)).trans z1
  have w2 : ab_I G h (b + 37) 100 fs := (fr _ (by omega)).trans z2
  have w4 : ab_I G h (b + 38) 100 fb_ := (fr _ (by omega)).trans z4
  have w6 : ab_Q G h (b + 39) 3 100 fl := (fr _ (by omega)).trans z6
  have w9 := (fr (b + 1) (by omega)).trans z9
  have wA : ab_Q G h (b + 2) 4 64 fq := (fr _ (by omega)).trans zA
  have wB : ab_I G h (b + 40) 400 fb := (fr _ (by omega)).trans k1
  have wC : ab_I G h (b + 44) 401 fs9 := (fr _ (by omega)).trans k5
  have wD : ab_I G h (b + 45) 1600 fa := (fr _ (by omega)).trans k6
  have wE : ab_I G h (b + 46) 1600 fr9 := (fr _ (by omega)).trans k7
  have wF : ab_I G h (b + 47) 1600 ft := (fr _ (by omega)).trans k8
  have wG := (fr (b + 32) (by omega)).trans kD
  have wH := (fr q (by omega)).trans kE
  refine v_aload_n dX1_judgeSpace_0 rfl 0 rfl ?_
  refine v_iload_n dX1_judgeSpace_1 rfl 1 rfl ?_
  refine v_iconst (v := 0) dX1_judgeSpace_2 (by decide) ?_
  refine v_iload_n dX1_judgeSpace_3 rfl 2 rfl ?_
  refine v_iconst (v := 2) dX1_judgeSpace_4 (by decide) ?_
  refine v_aload_n dX1_judgeSpace_5 rfl 0 rfl ?_
  refine v_getf 1 (ci := 0) (C := RX1) (T := TX1) (N := 6) rfl iwX1_judgeSpace_X1 (Nat.le_of_ble_eq_true rfl) (by decide +kernel) dX1_judgeSpace_6 (by first | with_reducible assumption) rfl ?_
  refine v_getf 3 (ci := 6) (C := RX8) (T := TX8) (N := 14) rfl iwX1_judgeSpace_X8 (Nat.le_of_ble_eq_true rfl) (by decide +kernel) dX1_judgeSpace_9 (by first | with_reducible assumption) rfl ?_
  refine v_iload_n dX1_judgeSpace_12 rfl 1 rfl ?_
  refine v_ialdS (v := nI (S.getD i ([], 0)).2) dX1_judgeSpace_13 (by first | with_reducible assumption) (vp_in_nI (by omega) (by omega)) (by rw [nI_clamp (by omega)]; exact z3 i hi) ?_
  refine v_aload_n dX1_judgeSpace_14 rfl 0 rfl ?_
  refine v_getf 1 (ci := 0) (C := RX1) (T := TX1) (N := 6) rfl iwX1_judgeSpace_X1 (Nat.le_of_ble_eq_true rfl) (by decide +kernel) dX1_judgeSpace_15 (by first | with_reducible assumption) rfl ?_
  refine v_getf 3 (ci := 6) (C := RX8) (T := TX8) (N := 14) rfl iwX1_judgeSpace_X8 (Nat.le_of_ble_eq_true rfl) (by decide +kernel) dX1_judgeSpace_18 (by first | with_reducible assumption) rfl ?_
  refine v_iload_n dX1_judgeSpace_21 rfl 2 rfl ?_
  refine v_ialdS (v := nI (S.getD j ([], 0)).2) dX1_judgeSpace_22 (by first | with_reducible assumption) (vp_in_nI (by omega) (by omega)) (by rw [nI_clamp (by omega)]; exact z3 j hj) ?_
  refine v_callVq (M' := mX1_across) (n := 6) (As := [_, _, _, _, _, _]) (ci := 0) (r := (RX1, TX1, 6)) gX1_judgeSpace_X1_across rfl (by decide +kernel) ⟨(Nat.le_of_ble_eq_true rfl), (Nat.le_of_ble_eq_true rfl)⟩ rfl rfl dX1_judgeSpace_23 rfl ⟨(Nat.le_of_ble_eq_true rfl), (Nat.le_of_ble_eq_true rfl)⟩ (Nat.le_of_ble_eq_true rfl) (by first | with_reducible assumption) rfl (c_acrossN G hki hb _ b k nc np pl R hm pa sz ly vo ar X Y fc oc mp w3 T S q t n0 kd l1 l2 x3 x4 x5 x6 K hw hmI hbm ((S.getD i ([], 0)).2 : Int) ((S.getD j ([], 0)).2 : Int) (show bd ((S.getD i ([], 0)).2 : Int) from by have := (zE i hi).1; unfold bd; omega) (show bd ((S.getD j ([], 0)).2 : Int) from by have := (zE j hj).1; unfold bd; omega) i hi 0 (by decide) j hj 2 (by decide) _ fr _ H (by decide) (by decide) rfl rfl) (fun v h1 y1 hq9 => ?_)
  obtain ⟨rfl, rfl, H1, fr1⟩ := hq9
  have w11 := (fr1 (b + 35) (by omega)).trans z1
  have w21 : ab_I G h1 (b + 37) 100 fs := (fr1 _ (by omega)).trans z2
  have wG1 := (fr1 (b + 32) (by omega)).trans kD
  have wH1 := (fr1 q (by omega)).trans kE
  refine v_aload_n dX1_judgeSpace_26 rfl 0 rfl ?_
  refine v_iload_n dX1_judgeSpace_27 rfl 1 rfl ?_
  refine v_iconst (v := 1) dX1_judgeSpace_28 (by decide) ?_
  refine v_iload_n dX1_judgeSpace_29 rfl 2 rfl ?_
  refine v_iconst (v := 3) dX1_judgeSpace_30 (by decide) ?_
  refine v_aload_n dX1_judgeSpace_31 rfl 0 rfl ?_
  refine v_getf 1 (ci := 0) (C := RX1) (T := TX1) (N := 6) rfl iwX1_judgeSpace_X1 (Nat.le_of_ble_eq_true rfl) (by decide +kernel) dX1_judgeSpace_32 (by first | with_reducible assumption) rfl ?_
  refine v_getf 3 (ci := 6) (C := RX8) (T := TX8) (N := 14) rfl iwX1_judgeSpace_X8 (Nat.le_of_ble_eq_true rfl) (by decide +kernel) dX1_judgeSpace_35 (by first | with_reducible assumption) rfl ?_
  refine v_iload_n dX1_judgeSpace_38 rfl 1 rfl ?_
  refine v_ialdS (v := nI (S.getD i ([], 0)).2) dX1_judgeSpace_39 (by first | with_reducible assumption) (vp_in_nI (by omega) (by omega)) (by rw [nI_clamp (by omega)]; exact z3 i hi) ?_
  refine v_aload_n dX1_judgeSpace_40 rfl 0 rfl ?_
  refine v_getf 1 (ci := 0) (C := RX1) (T := TX1) (N := 6) rfl iwX1_judgeSpace_X1 (Nat.le_of_ble_eq_true rfl) (by decide +kernel) dX1_judgeSpace_41 (by first | with_reducible assumption) rfl ?_
  refine v_getf 3 (ci := 6) (C := RX8) (T := TX8) (N := 14) rfl iwX1_judgeSpace_X8 (Nat.le_of_ble_eq_true rfl) (by decide +kernel) dX1_judgeSpace_44 (by first | with_reducible assumption) rfl ?_
  refine v_iload_n dX1_judgeSpace_47 rfl 2 rfl ?_
  refine v_ialdS (v := nI (S.getD j ([], 0)).2) dX1_judgeSpace_48 (by first | with_reducible assumption) (vp_in_nI (by omega) (by omega)) (by rw [nI_clamp (by omega)]; exact z3 j hj) ?_
  refine v_callVq (M' := mX1_across) (n := 6) (As := [_, _, _, _, _, _]) (ci := 0) (r := (RX1, TX1, 6)) gX1_judgeSpace_X1_across rfl (by decide +kernel) ⟨(Nat.le_of_ble_eq_true rfl), (Nat.le_of_ble_eq_true rfl)⟩ rfl rfl dX1_judgeSpace_49 rfl ⟨(Nat.le_of_ble_eq_true rfl), (Nat.le_of_ble_eq_true rfl)⟩ (Nat.le_of_ble_eq_true rfl) (by first | with_reducible assumption) rfl (c_acrossN G hki hb _ b k nc np pl R hm pa sz ly vo ar X Y fc oc mp w3 T S q t n0 kd l1 l2 x3 x4 x5 x6 K hw hmI hbm ((S.getD i ([], 0)).2 : Int) ((S.getD j ([], 0)).2 : Int) (show bd ((S.getD i ([], 0)).2 : Int) from by have := (zE i hi).1; unfold bd; omega) (show bd ((S.getD j ([], 0)).2 : Int) from by have := (zE j hj).1; unfold bd; omega) i hi 1 (by decide) j hj 3 (by decide) _ fr1 _ H1 (by decide) (by decide) rfl rfl) (fun v h2 y2 hq9 => ?_)
  obtain ⟨rfl, rfl, H2, fr2⟩ := hq9
  have w12 := (fr2 (b + 35) (by omega)).trans z1
  have w22 : ab_I G h2 (b + 37) 100 fs := (fr2 _ (by omega)).trans z2
  have wG2 := (fr2 (b + 32) (by omega)).trans kD
  have wH2 := (fr2 q (by omega)).trans kE
  exact v_ret rfl dX1_judgeSpace_52 (Nat.le_of_ble_eq_true rfl) (Nat.le_of_ble_eq_true rfl) ⟨rfl, rfl, by unfold jSp; rw [← List.append_assoc]; exact H2, fr2⟩

set_option maxHeartbeats 4000000 in
set_option maxRecDepth 100000 in
theorem c_jOverlap (G : sv_G) (hki : sv_ki G) (hb : sv_h) (z b : Nat) (k : Int32) (nc np pl : Nat) (R : Nat → Bool) (hm pa sz : Nat → Nat) (ly vo ar : Nat → Int32) (X Y : Nat → Nat → Int) (fc : Nat → Nat → Nat) (oc : Nat → Nat → Option Nat) (mp : Nat → mvT) (w3 : Bool) (T : List Nat × Nat → Nat → List (Int × Int × Int)) (S : List (List Nat × Nat)) (q t : Nat) (n0 : Int64) (kd : Nat) (l1 l2 x3 x4 x5 x6 : Int32) (K : ck_ G w3 b k nc np pl R hm pa sz ly vo ar X Y fc oc mp T S q t n0 kd l1 l2 x3 x4 x5 x6 hb) (hw : w3 = true) (hmI : Int) (hbm : bd hmI) (i : Nat) (hi : i < S.length) (j : Nat) (hj : j < S.length) (h : sv_h) (fr : ∀ a, ¬ (t ≤ a ∧ a < t + 4) → h a = hb a) (E0 : List (List Int64)) (H : tE G h t (iN hmI) E0) : CT G mX1_judgeOverlap [.ref (b + 32), .int (nI i), .int (nI j)] h z (fun v h1 z1 => v = none ∧ z1 = z ∧ tE G h1 t (iN hmI) (E0 ++ (jOv kd x3 x4 x6 hmI T S i j)) ∧ ∀ a, ¬ (t ≤ a ∧ a < t + 4) → h1 a = hb a) := by
  refine CT.of (by decide +kernel) rfl rfl (Nat.le_of_ble_eq_true rfl) ?_
  obtain ⟨Z, ⟨⟨fb, fcx, fcy, k1, k2, k3, k4⟩, ⟨fs9, fa, fr9, ft, k5, k6, k7, k8, k9, kA, kB⟩, ⟨fsp, kC⟩, _⟩, kD, kE, kF, kG, kH, kI⟩ := id K
  obtain ⟨z0, z1, ⟨fs, z2, z3⟩, ⟨fb_, z4, z5⟩, ⟨fl, z6, z7⟩, z8, z9, ⟨fq, zA, zB⟩, zC, zD, zE, zF⟩ := id Z
  have w1 := (fr (b + 35) (by omega)).trans z1
  have w2 : ab_I G h (b + 37) 100 fs := (fr _ (by omega)).trans z2
  have w4 : ab_I G h (b + 38) 100 fb_ := (fr _ (by omega)).trans z4
  have w6 : ab_Q G h (b + 39) 3 100 fl := (fr _ (by omega)).trans z6
  have w9 := (fr (b + 1) (by omega)).trans z9
  have wA : ab_Q G h (b + 2) 4 64 fq := (fr _ (by omega)).trans zA
  have wB : ab_I G h (b + 40) 400 fb := (fr _ (by omega)).trans k1
  have wC : ab_I G h (b + 44) 401 fs9 := (fr _ (by omega)).trans k5
  have wD : ab_I G h (b + 45) 1600 fa := (fr _ (by omega)).trans k6
  have wE : ab_I G h (b + 46) 1600 fr9 := (fr _ (by omega)).trans k7
  have wF : ab_I G h (b + 47) 1600 ft := (fr _ (by omega)).trans k8
  have wG := (fr (b + 32) (by omega)).trans kD
  have wH := (fr q (by omega)).trans kE
  refine v_aload_n dX1_judgeOverlap_0 rfl 0 rfl ?_
  refine v_iload_n dX1_judgeOverlap_1 rfl 2 rfl ?_
  refine v_iconst (v := 2) dX1_judgeOverlap_2 (by decide) ?_
  refine v_iload_n dX1_judgeOverlap_3 rfl 1 rfl ?_
  refine v_iconst (v := 0) dX1_judgeOverlap_4 (by decide) ?_
  refine v_aload_n dX1_judgeOverlap_5 rfl 0 rfl ?_
  refine v_getf 1 (ci := 0) (C := RX1) (T := TX1) (N := 6) rfl iwX1_judgeOverlap_X1 (Nat.le_of_ble_eq_true rfl) (by decide +kernel) dX1_judgeOverlap_6 (by first | with_reducible assumption) rfl ?_
  refine v_getf 3 (ci := 6) (C := RX8) (T := TX8) (N := 14) rfl iwX1_judgeOverlap_X8 (Nat.le_of_ble_eq_true rfl) (by decide +kernel) dX1_judgeOverlap_9 (by first | with_reducible assumption) rfl ?_
  refine v_iload_n dX1_judgeOverlap_12 rfl 1 rfl ?_
  refine v_ialdS (v := nI (S.getD i ([], 0)).2) dX1_judgeOverlap_13 (by first | with_reducible assumption) (vp_in_nI (by omega) (by omega)) (by rw [nI_clamp (by omega)]; exact z3 i hi) ?_
  refine v_aload_n dX1_judgeOverlap_14 rfl 0 rfl ?_
  refine v_getf 1 (ci := 0) (C := RX1) (T := TX1) (N := 6) rfl iwX1_judgeOverlap_X1 (Nat.le_of_ble_eq_true rfl) (by decide +kernel) dX1_judgeOverlap_15 (by first | with_reducible assumption) rfl ?_
  refine v_getf 3 (ci := 6) (C := RX8) (T := TX8) (N := 14) rfl iwX1_judgeOverlap_X8 (Nat.le_of_ble_eq_true rfl) (by decide +kernel) dX1_judgeOverlap_18 (by first | with_reducible assumption) rfl ?_
  refine v_iload_n dX1_judgeOverlap_21 rfl 2 rfl ?_
  refine v_ialdS (v := nI (S.getD j ([], 0)).2) dX1_judgeOverlap_22 (by first | with_reducible assumption) (vp_in_nI (by omega) (by omega)) (by rw [nI_clamp (by omega)]; exact z3 j hj) ?_
  refine v_callVq (M' := mX1_across) (n := 6) (As := [_, _, _, _, _, _]) (ci := 0) (r := (RX1, TX1, 6)) gX1_judgeOverlap_X1_across rfl (by decide +kernel) ⟨(Nat.le_of_ble_eq_true rfl), (Nat.le_of_ble_eq_true rfl)⟩ rfl rfl dX1_judgeOverlap_23 rfl ⟨(Nat.le_of_ble_eq_true rfl), (Nat.le_of_ble_eq_true rfl)⟩ (Nat.le_of_ble_eq_true rfl) (by first | with_reducible assumption) rfl (c_acrossN G hki hb _ b k nc np pl R hm pa sz ly vo ar X Y fc oc mp w3 T S q t n0 kd l1 l2 x3 x4 x5 x6 K hw hmI hbm ((S.getD i ([], 0)).2 : Int) ((S.getD j ([], 0)).2 : Int) (show bd ((S.getD i ([], 0)).2 : Int) from by have := (zE i hi).1; unfold bd; omega) (show bd ((S.getD j ([], 0)).2 : Int) from by have := (zE j hj).1; unfold bd; omega) j hj 2 (by decide) i hi 0 (by decide) _ fr _ H (by decide) (by decide) rfl rfl) (fun v h1 y1 hq9 => ?_)
  obtain ⟨rfl, rfl, H1, fr1⟩ := hq9
  have w11 := (fr1 (b + 35) (by omega)).trans z1
  have w21 : ab_I G h1 (b + 37) 100 fs := (fr1 _ (by omega)).trans z2
  have wG1 := (fr1 (b + 32) (by omega)).trans kD
  have wH1 := (fr1 q (by omega)).trans kE
  refine v_aload_n dX1_judgeOverlap_26 rfl 0 rfl ?_
  refine v_iload_n dX1_judgeOverlap_27 rfl 2 rfl ?_
  refine v_iconst (v := 3) dX1_judgeOverlap_28 (by decide) ?_
  refine v_iload_n dX1_judgeOverlap_29 rfl 1 rfl ?_
  refine v_iconst (v := 1) dX1_judgeOverlap_30 (by decide) ?_
  refine v_aload_n dX1_judgeOverlap_31 rfl 0 rfl ?_
  refine v_getf 1 (ci := 0) (C := RX1) (T := TX1) (N := 6) rfl iwX1_judgeOverlap_X1 (Nat.le_of_ble_eq_true rfl) (by decide +kernel) dX1_judgeOverlap_32 (by first | with_reducible assumption) rfl ?_
  refine v_getf 3 (ci := 6) (C := RX8) (T := TX8) (N := 14) rfl iwX1_judgeOverlap_X8 (Nat.le_of_ble_eq_true rfl) (by decide +kernel) dX1_judgeOverlap_35 (by first | with_reducible assumption) rfl ?_
  refine v_iload_n dX1_judgeOverlap_38 rfl 1 rfl ?_
  refine v_ialdS (v := nI (S.getD i ([], 0)).2) dX1_judgeOverlap_39 (by first | with_reducible assumption) (vp_in_nI (by omega) (by omega)) (by rw [nI_clamp (by omega)]; exact z3 i hi) ?_
  refine v_aload_n dX1_judgeOverlap_40 rfl 0 rfl ?_
  refine v_getf 1 (ci := 0) (C := RX1) (T := TX1) (N := 6) rfl iwX1_judgeOverlap_X1 (Nat.le_of_ble_eq_true rfl) (by decide +kernel) dX1_judgeOverlap_41 (by first | with_reducible assumption) rfl ?_
  refine v_getf 3 (ci := 6) (C := RX8) (T := TX8) (N := 14) rfl iwX1_judgeOverlap_X8 (Nat.le_of_ble_eq_true rfl) (by decide +kernel) dX1_judgeOverlap_44 (by first | with_reducible assumption) rfl ?_
  refine v_iload_n dX1_judgeOverlap_47 rfl 2 rfl ?_
  refine v_ialdS (v := nI (S.getD j ([], 0)).2) dX1_judgeOverlap_48 (by first | with_reducible assumption) (vp_in_nI (by omega) (by omega)) (by rw [nI_clamp (by omega)]; exact z3 j hj) ?_
  refine v_callVq (M' := mX1_across) (n := 6) (As := [_, _, _, _, _, _]) (ci := 0) (r := (RX1, TX1, 6)) gX1_judgeOverlap_X1_across rfl (by decide +kernel) ⟨(Nat.le_of_ble_eq_true rfl), (Nat.le_of_ble_eq_true rfl)⟩ rfl rfl dX1_judgeOverlap_49 rfl ⟨(Nat.le_of_ble_eq_true rfl), (Nat.le_of_ble_eq_true rfl)⟩ (Nat.le_of_ble_eq_true rfl) (by first | with_reducible assumption) rfl (c_acrossN G hki hb _ b k nc np pl R hm pa sz ly vo ar X Y fc oc mp w3 T S q t n0 kd l1 l2 x3 x4 x5 x6 K hw hmI hbm ((S.getD i ([], 0)).2 : Int) ((S.getD j ([], 0)).2 : Int) (show bd ((S.getD i ([], 0)).2 : Int) from by have := (zE i hi).1; unfold bd; omega) (show bd ((S.getD j ([], 0)).2 : Int) from by have := (zE j hj).1; unfold bd; omega) j hj 3 (by decide) i hi 1 (by decide) _ fr1 _ H1 (by decide) (by decide) rfl rfl) (fun v h2 y2 hq9 => ?_)
  obtain ⟨rfl, rfl, H2, fr2⟩ := hq9
  have w12 := (fr2 (b + 35) (by omega)).trans z1
  have w22 : ab_I G h2 (b + 37) 100 fs := (fr2 _ (by omega)).trans z2
  have wG2 := (fr2 (b + 32) (by omega)).trans kD
  have wH2 := (fr2 q (by omega)).trans kE
  exact v_ret rfl dX1_judgeOverlap_52 (Nat.le_of_ble_eq_true rfl) (Nat.le_of_ble_eq_true rfl) ⟨rfl, rfl, by unfold jOv; rw [← List.append_assoc]; exact H2, fr2⟩

