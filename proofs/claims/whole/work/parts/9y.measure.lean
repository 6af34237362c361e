theorem c_addN (G : sv_G) (h : sv_h) (z t : Nat) (hmI : Int) (E : List (List Int64)) (H : tE G h t (iN hmI) E) (x0 y0 x1 y1 a c : Int) (m : Int64) (m0 : Int) (h0 : bd x0) (h1 : bd y0) (h2 : bd x1) (h3 : bd y1) (h4 : bd a) (h5 : bd c) (h6 : bd hmI) (h7 : m = jN m0) {av cv : Int32} (e1 : av = iN a) (e2 : cv = iN c) : CT G mX10_add [.ref t, .int (iN x0), .int (iN y0), .int (iN x1), .int (iN y1), .int av, .int cv, .long m] h z (fun v h1 z1 => v = none ∧ z1 = z ∧ tE G h1 t (iN hmI) (E ++ [rwI x0 y0 x1 y1 a c m0 hmI]) ∧ ∀ w, ¬ (t ≤ w ∧ w < t + 4) → h1 w = h w) := by
  subst e1 e2
  exact c_addI G h z t hmI E H x0 y0 x1 y1 a c m m0 h0 h1 h2 h3 h4 h5 h6 h7
/-- an occurrence below a measure -/
def jMs (x3 : Int32) (hmI : Int) (mp : Nat → mvT) (sz : Nat → Nat) (X Y : Nat → Nat → Int) (q : List Nat × Nat) (m : Int) : List (List Int64) := if m < x3.toInt then [rwI (bxO mp sz X Y q 0) (bxO mp sz X Y q 1) (bxO mp sz X Y q 2) (bxO mp sz X Y q 3) (q.2 : Int) (-1) m hmI] else []
/-- a side that is too short -/
def edR (x3 : Int32) (a hmI : Int) (f : Nat) (s : iT) : List (List Int64) := if s.2.2 - s.2.1 < x3.toInt then [if upr f = true then rwI s.1 s.2.1 s.1 s.2.2 a (-1) (s.2.2 - s.2.1) hmI else rwI s.2.1 s.1 s.2.2 s.1 a (-1) (s.2.2 - s.2.1) hmI] else []
def jEd (x3 : Int32) (hmI : Int) (T : List Nat × Nat → Nat → List (Int × Int × Int)) (q : List Nat × Nat) (n : Nat) : List (List Int64) := (List.range n).flatMap (fun f => (T q f).flatMap (edR x3 (q.2 : Int) hmI f))
theorem jEd_s (x3 : Int32) (hmI : Int) (T : List Nat × Nat → Nat → List (Int × Int × Int)) (q : List Nat × Nat) (n : Nat) : jEd x3 hmI T q (n + 1) = jEd x3 hmI T q n ++ (T q n).flatMap (edR x3 (q.2 : Int) hmI n) := by
  unfold jEd
  rw [List.range_succ, List.flatMap_append, List.flatMap_cons, List.flatMap_nil, List.append_nil]
set_option maxHeartbeats 4000000 in
set_option maxRecDepth 100000 in
theorem c_jMeasure (G : sv_G) (hb : sv_h) (z b : Nat) (k : Int32) (nc np pl : Nat) (R : Nat → Bool) (hm pa sz : Nat → Nat) (ly vo ar : Nat → Int32) (X Y : Nat → Nat → Int) (fc : Nat → Nat → Nat) (oc : Nat → Nat → Option Nat) (mp : Nat → mvT) (w3 : Bool) (T : List Nat × Nat → Nat → List (Int × Int × Int)) (S : List (List Nat × Nat)) (q t : Nat) (n0 : Int64) (kd : Nat) (l1 l2 x3 x4 x5 x6 : Int32) (K : ck_ G w3 b k nc np pl R hm pa sz ly vo ar X Y fc oc mp T S q t n0 kd l1 l2 x3 x4 x5 x6 hb) (hmI : Int) (hbm : bd hmI) (i : Nat) (hi : i < S.length) (h : sv_h) (fr : ∀ a, ¬ (t ≤ a ∧ a < t + 4) → h a = hb a) (E0 : List (List Int64)) (H : tE G h t (iN hmI) E0) (m : Int) (hm9 : bd m) : CT G mX1_judgeMeasure [.ref (b + 32), .int (nI i), .int (iN m)] h z (fun v h1 z1 => v = none ∧ z1 = z ∧ tE G h1 t (iN hmI) (E0 ++ (jMs x3 hmI mp sz X Y (S.getD i ([], 0)) m)) ∧ ∀ a, ¬ (t ≤ a ∧ a < t + 4) → h1 a = hb a) := by
  refine CT.of (by decide +kernel) rfl rfl (Nat.le_of_ble_eq_true rfl) ?_
  obtain ⟨Z, ⟨⟨fb, fcx, fcy, k1, k2, k3, k4⟩, ⟨fs9, fa, fr9, ft, k5, k6, k7, k8, k9, kA, kB⟩, ⟨fsp, kC⟩, _⟩, kD, kE, kF, kG, kH, kI⟩ := id K
  obtain ⟨z0, z1, ⟨fs, z2, z3⟩, ⟨fb_, z4, z5⟩, ⟨fl, z6, z7⟩, z8, z9, ⟨fq, zA, zB⟩, zC, zD, zE, zF⟩ := id Z
  have w1 := (fr (b + 35) (by omega)).trans z1
  have w2 : ab_I G h (b + 37) 100 fs := (fr _ (by omega)).trans z2
  have w4 : ab_I G h (b + 38) 100 fb_ := (fr _ (by omega)).trans z4
  have w6 : ab_Q G h (b + 39) 3 100 fl := (fr _ (by omega)).trans z6
  have w9 := (fr (b + 1) (by omega)).trans z9
  have wA : ab_Q G h (b + 2) 4 64 fq := (fr _ (by omega)).trans zA
  have wB : ab_I G h (b + 40) 400 fb := (fr _ (by omega)).trans k1
  have wC : ab_I G h (b + 44) 401 fs9 := (fr _ (by omega)).trans k5
  have wD : ab_I G h (b + 45) 1600 fa := (fr _ (by omega)).trans k6
  have wE : ab_I G h (b + 46) 1600 fr9 := (fr _ (by omega)).trans k7
  have wF : ab_I G h (b + 47) 1600 ft := (fr _ (by omega)).trans k8
  have wG := (fr (b + 32) (by omega)).trans kD
  have wH := (fr q (by omega)).trans kE
  have bxi : ∀ j9, -200000 ≤ bxO mp sz X Y (S.getD i ([], 0)) j9 ∧ bxO mp sz X Y (S.getD i ([], 0)) j9 ≤ 200000 := fun j9 => bxk_b (zE i hi).2.2 (by obtain ⟨_, _, _, _, _, _, _, _, _, g4, _⟩ := zD _ (zE i hi).1 (zE i hi).2.1; omega) j9
  obtain ⟨fst9, ht9⟩ := H.obj
  refine v_iload_n dX1_judgeMeasure_0 rfl 2 rfl ?_
  refine v_aload_n dX1_judgeMeasure_1 rfl 0 rfl ?_
  refine v_getf 4 (ci := 0) (C := RX1) (T := TX1) (N := 6) rfl iwX1_judgeMeasure_X1 (Nat.le_of_ble_eq_true rfl) (by decide +kernel) dX1_judgeMeasure_2 (by first | with_reducible assumption) rfl ?_
  refine v_getf 4 (ci := 5) (C := RX7) (T := TX7) (N := 8) rfl iwX1_judgeMeasure_X7 (Nat.le_of_ble_eq_true rfl) (by decide +kernel) dX1_judgeMeasure_5 (by first | with_reducible assumption) rfl ?_
  refine v_icmp_ge (tgt := 65) dX1_judgeMeasure_8 (by decide) (fun c_8 => ?_) (fun c_8 => ?_)
  · exact v_ret rfl dX1_judgeMeasure_65 (Nat.le_of_ble_eq_true rfl) (Nat.le_of_ble_eq_true rfl) (by
          unfold jMs
          first
            | (have c9 := H1
               rw [if_pos (show m < x3.toInt from by have q9 := Int32.not_le.mp c_8; rw [Int32.lt_iff_toInt_lt, iN_to (by have := hm9.1; omega) (by have := hm9.2; omega)] at q9; exact q9)]
               exact ⟨rfl, rfl, c9, fun a9 p9 => (fr1 a9 p9).trans (fr a9 p9)⟩)
            | (rw [if_neg (show ¬ m < x3.toInt from by have q9 := c_8; rw [Int32.le_iff_toInt_le, iN_to (by have := hm9.1; omega) (by have := hm9.2; omega)] at q9; omega), List.append_nil]
               exact ⟨rfl, rfl, H, fr⟩))
  · refine v_aload_n dX1_judgeMeasure_11 rfl 0 rfl ?_
    refine v_getf 1 (ci := 0) (C := RX1) (T := TX1) (N := 6) rfl iwX1_judgeMeasure_X1 (Nat.le_of_ble_eq_true rfl) (by decide +kernel) dX1_judgeMeasure_12 (by first | with_reducible assumption) rfl ?_
    refine v_getf 6 (ci := 6) (C := RX8) (T := TX8) (N := 14) rfl iwX1_judgeMeasure_X8 (Nat.le_of_ble_eq_true rfl) (by decide +kernel) dX1_judgeMeasure_15 (by first | with_reducible assumption) rfl ?_
    refine v_astore_n (L' := [(3, _), (0, _), (1, _), (2, _)]) dX1_judgeMeasure_18 rfl (Nat.le_of_ble_eq_true rfl) rfl ?_
    refine v_iload_n dX1_judgeMeasure_19 rfl 2 rfl ?_
    refine v_iconst (v := 4) dX1_judgeMeasure_20 (by decide) ?_
    refine v_imul dX1_judgeMeasure_21 ?_
    rw [sv_40 i]
    refine v_istore (L' := [(4, _), (3, _), (0, _), (1, _), (2, _)]) dX1_judgeMeasure_22 (Nat.le_of_ble_eq_true rfl) rfl ?_
    refine v_aload_n dX1_judgeMeasure_24 rfl 2 rfl ?_
    refine v_getf 5 (ci := 0) (C := RX1) (T := TX1) (N := 6) rfl iwX1_judgeMeasure_X1 (Nat.le_of_ble_eq_true rfl) (by decide +kernel) dX1_judgeMeasure_25 (by first | with_reducible assumption) rfl ?_
    refine v_aload_n dX1_judgeMeasure_28 rfl 1 rfl ?_
    refine v_iload dX1_judgeMeasure_29 0 rfl ?_
    refine v_ialdS (v := iN (bxO mp sz X Y (S.getD i ([], 0)) 0)) dX1_judgeMeasure_31 (by first | with_reducible assumption) (vp_in_nI (by omega) (by omega)) (by rw [nI_clamp (by omega)]; exact k4 i hi 0 (by omega)) ?_
    refine v_aload_n dX1_judgeMeasure_32 rfl 1 rfl ?_
    refine v_iload dX1_judgeMeasure_33 0 rfl ?_
    refine v_iconst (v := 1) dX1_judgeMeasure_35 (by decide) ?_
    refine v_iadd dX1_judgeMeasure_36 ?_
    rw [show nI (4 * i) + 1 = nI (4 * i + 1) from nI_add (4 * i) 1]
    refine v_ialdS (v := iN (bxO mp sz X Y (S.getD i ([], 0)) 1)) dX1_judgeMeasure_37 (by first | with_reducible assumption) (vp_in_nI (by omega) (by omega)) (by rw [nI_clamp (by omega)]; exact k4 i hi 1 (by omega)) ?_
    refine v_aload_n dX1_judgeMeasure_38 rfl 1 rfl ?_
    refine v_iload dX1_judgeMeasure_39 0 rfl ?_
    refine v_iconst (v := 2) dX1_judgeMeasure_41 (by decide) ?_
    refine v_iadd dX1_judgeMeasure_42 ?_
    rw [show nI (4 * i) + 2 = nI (4 * i + 2) from nI_add (4 * i) 2]
    refine v_ialdS (v := iN (bxO mp sz X Y (S.getD i ([], 0)) 2)) dX1_judgeMeasure_43 (by first | with_reducible assumption) (vp_in_nI (by omega) (by omega)) (by rw [nI_clamp (by omega)]; exact k4 i hi 2 (by omega)) ?_
    refine v_aload_n dX1_judgeMeasure_44 rfl 1 rfl ?_
    refine v_iload dX1_judgeMeasure_45 0 rfl ?_
    refine v_iconst (v := 3) dX1_judgeMeasure_47 (by decide) ?_
    refine v_iadd dX1_judgeMeasure_48 ?_
    rw [show nI (4 * i) + 3 = nI (4 * i + 3) from nI_add (4 * i) 3]
    refine v_ialdS (v := iN (bxO mp sz X Y (S.getD i ([], 0)) 3)) dX1_judgeMeasure_49 (by first | with_reducible assumption) (vp_in_nI (by omega) (by omega)) (by rw [nI_clamp (by omega)]; exact k4 i hi 3 (by omega)) ?_
    refine v_aload_n dX1_judgeMeasure_50 rfl 2 rfl ?_
    refine v_getf 1 (ci := 0) (C := RX1) (T := TX1) (N := 6) rfl iwX1_judgeMeasure_X1 (Nat.le_of_ble_eq_true rfl) (by decide +kernel) dX1_judgeMeasure_51 (by first | with_reducible assumption) rfl ?_
    refine v_getf 3 (ci := 6) (C := RX8) (T := TX8) (N := 14) rfl iwX1_judgeMeasure_X8 (Nat.le_of_ble_eq_true rfl) (by decide +kernel) dX1_judgeMeasure_54 (by first | with_reducible assumption) rfl ?_
    refine v_iload_n dX1_judgeMeasure_57 rfl 3 rfl ?_
    refine v_ialdS (v := nI (S.getD i ([], 0)).2) dX1_judgeMeasure_58 (by first | with_reducible assumption) (vp_in_nI (by omega) (by omega)) (by rw [nI_clamp (by omega)]; exact z3 i hi) ?_
    refine v_iconst (v := (-1)) dX1_judgeMeasure_59 (by decide) ?_
    refine v_iload_n dX1_judgeMeasure_60 rfl 4 rfl ?_
    refine v_i2l dX1_judgeMeasure_61 rfl ?_
    refine v_callVq (M' := mX10_add) (n := 7) (As := [_, _, _, _, _, _, _]) (ci := 8) (r := (RX10, TX10, 7)) gX1_judgeMeasure_X10_add rfl (by decide +kernel) ⟨(Nat.le_of_ble_eq_true rfl), (Nat.le_of_ble_eq_true rfl)⟩ rfl rfl dX1_judgeMeasure_62 rfl ⟨(Nat.le_of_ble_eq_true rfl), (Nat.le_of_ble_eq_true rfl)⟩ (Nat.le_of_ble_eq_true rfl) (by first | with_reducible assumption) rfl (c_addN G h _ t hmI _ H (bxO mp sz X Y (S.getD i ([], 0)) 0) (bxO mp sz X Y (S.getD i ([], 0)) 1) (bxO mp sz X Y (S.getD i ([], 0)) 2) (bxO mp sz X Y (S.getD i ([], 0)) 3) ((S.getD i ([], 0)).2 : Int) (-1) _ m (show bd _ from by have := bxi 0; unfold bd; omega) (show bd _ from by have := bxi 1; unfold bd; omega) (show bd _ from by have := bxi 2; unfold bd; omega) (show bd _ from by have := bxi 3; unfold bd; omega) (show bd ((S.getD i ([], 0)).2 : Int) from by have := (zE i hi).1; unfold bd; omega) (show bd (-1) from by unfold bd; omega) hbm (iN_64 hm9.1 hm9.2) rfl (by decide)) (fun v h2 z2 hq9 => ?_)
    obtain ⟨rfl, rfl, H1, fr1⟩ := hq9
    exact v_ret rfl dX1_judgeMeasure_65 (Nat.le_of_ble_eq_true rfl) (Nat.le_of_ble_eq_true rfl) (by
          unfold jMs
          first
            | (have c9 := H1
               rw [if_pos (show m < x3.toInt from by have q9 := Int32.not_le.mp c_8; rw [Int32.lt_iff_toInt_lt, iN_to (by have := hm9.1; omega) (by have := hm9.2; omega)] at q9; exact q9)]
               exact ⟨rfl, rfl, c9, fun a9 p9 => (fr1 a9 p9).trans (fr a9 p9)⟩)
            | (rw [if_neg (show ¬ m < x3.toInt from by have q9 := c_8; rw [Int32.le_iff_toInt_le, iN_to (by have := hm9.1; omega) (by have := hm9.2; omega)] at q9; omega), List.append_nil]
               exact ⟨rfl, rfl, H, fr⟩))

set_option maxHeartbeats 4000000 in
set_option maxRecDepth 100000 in
theorem l_edI (G : sv_G) (Qr : Option Value → sv_h → Nat → Prop) (hb : sv_h) (z b : Nat) (k : Int32) (nc np pl : Nat) (R : Nat → Bool) (hm pa sz : Nat → Nat) (ly vo ar : Nat → Int32) (X Y : Nat → Nat → Int) (fc : Nat → Nat → Nat) (oc : Nat → Nat → Option Nat) (mp : Nat → mvT) (w3 : Bool) (T : List Nat × Nat → Nat → List (Int × Int × Int)) (S : List (List Nat × Nat)) (q t : Nat) (n0 : Int64) (kd : Nat) (l1 l2 x3 x4 x5 x6 : Int32) (K : ck_ G w3 b k nc np pl R hm pa sz ly vo ar X Y fc oc mp T S q t n0 kd l1 l2 x3 x4 x5 x6 hb) (hw : w3 = true) (hmI : Int) (hbm : bd hmI) (i : Nat) (hi : i < S.length) (f : Nat) (hf : f < 4) (E0 : List (List Int64)) (hk : ∀ h, (∀ a, ¬ (t ≤ a ∧ a < t + 4) → h a = hb a) → tE G h t (iN hmI) (E0 ++ (T (S.getD i ([], 0)) f).flatMap (edR x3 ((S.getD i ([], 0)).2 : Int) hmI f)) → V G mX1_judgeEdges (sv_MQ G mX1_judgeEdges Qr) 158 [(4, .int (nI (st_ T S i (f + 1)))), (3, .int (nI f)), (2, .int (nI (S.getD i ([], 0)).2)), (1, .int (nI i)), (0, .ref (b + 32))] [] h z 0 0) : ∀ (e y : Nat) (h : sv_h), y + e = (T (S.getD i ([], 0)) f).length → (∀ a, ¬ (t ≤ a ∧ a < t + 4) → h a = hb a) → tE G h t (iN hmI) (E0 ++ flT (edR x3 ((S.getD i ([], 0)).2 : Int) hmI f) (T (S.getD i ([], 0)) f) y) → V G mX1_judgeEdges (sv_MQ G mX1_judgeEdges Qr) 28 [(4, .int (nI (st_ T S i f + y))), (3, .int (nI f)), (2, .int (nI (S.getD i ([], 0)).2)), (1, .int (nI i)), (0, .ref (b + 32))] [] h z 0 0 := by
  intro e
  induction e with
  | zero =>
    intro y h hye fr H
    obtain ⟨Z, ⟨⟨fb, fcx, fcy, k1, k2, k3, k4⟩, ⟨fs9, fa, fr9, ft, k5, k6, k7, k8, k9, kA, kB⟩, ⟨fsp, kC⟩, _⟩, kD, kE, kF, kG, kH, kI⟩ := id K
    obtain ⟨z0, z1, ⟨fs, z2, z3⟩, ⟨fb_, z4, z5⟩, ⟨fl, z6, z7⟩, z8, z9, ⟨fq, zA, zB⟩, zC, zD, zE, zF⟩ := id Z
    have w1 := (fr (b + 35) (by omega)).trans z1
    have w2 : ab_I G h (b + 37) 100 fs := (fr _ (by omega)).trans z2
    have w4 : ab_I G h (b + 38) 100 fb_ := (fr _ (by omega)).trans z4
    have w6 : ab_Q G h (b + 39) 3 100 fl := (fr _ (by omega)).trans z6
    have w9 := (fr (b + 1) (by omega)).trans z9
    have wA : ab_Q G h (b + 2) 4 64 fq := (fr _ (by omega)).trans zA
    have wB : ab_I G h (b + 40) 400 fb := (fr _ (by omega)).trans k1
    have wC : ab_I G h (b + 44) 401 fs9 := (fr _ (by omega)).trans k5
    have wD : ab_I G h (b + 45) 1600 fa := (fr _ (by omega)).trans k6
    have wE : ab_I G h (b + 46) 1600 fr9 := (fr _ (by omega)).trans k7
    have wF : ab_I G h (b + 47) 1600 ft := (fr _ (by omega)).trans k8
    have wG := (fr (b + 32) (by omega)).trans kD
    have wH := (fr q (by omega)).trans kE
    obtain ⟨n1, n2⟩ := kI i hi f hf
    rw [st_s] at n2
    refine v_iload dX1_judgeEdges_28 0 rfl ?_
    refine v_aload_n dX1_judgeEdges_30 rfl 4 rfl ?_
    refine v_getf 1 (ci := 0) (C := RX1) (T := TX1) (N := 6) rfl iwX1_judgeEdges_X1 (Nat.le_of_ble_eq_true rfl) (by decide +kernel) dX1_judgeEdges_31 (by first | with_reducible assumption) rfl ?_
    refine v_iload_n dX1_judgeEdges_34 rfl 3 rfl ?_
    refine v_iload_n dX1_judgeEdges_35 rfl 1 rfl ?_
    refine v_callVq (M' := mX8_end) (n := 2) (As := [_, _]) (ci := 6) (r := (RX8, TX8, 14)) gX1_judgeEdges_X8_end rfl (by decide +kernel) ⟨(Nat.le_of_ble_eq_true rfl), (Nat.le_of_ble_eq_true rfl)⟩ rfl rfl dX1_judgeEdges_36 rfl ⟨(Nat.le_of_ble_eq_true rfl), (Nat.le_of_ble_eq_true rfl)⟩ (Nat.le_of_ble_eq_true rfl) (by first | with_reducible assumption) rfl (c_end G hb _ b k nc np pl R hm pa sz ly vo ar X Y fc oc mp w3 T S q t n0 kd l1 l2 x3 x4 x5 x6 K h fr i hi f hf) (fun v h1 z1 hq => v_pq hq ?_)
    refine v_icmp_ge (tgt := 158) dX1_judgeEdges_39 (by decide) (fun c_39 => ?_) (fun c_39 => ?_)
    · have e9 : y = (T (S.getD i ([], 0)) f).length := by omega
      rw [e9, flT_all] at H
      rw [e9, ← st_s]
      exact hk h fr H
    · exact absurd (nI_le (show st_ T S i (f + 1) ≤ st_ T S i f + y by rw [st_s]; omega) (by omega)) c_39
  | succ e ih =>
    intro y h hye fr H
    obtain ⟨Z, ⟨⟨fb, fcx, fcy, k1, k2, k3, k4⟩, ⟨fs9, fa, fr9, ft, k5, k6, k7, k8, k9, kA, kB⟩, ⟨fsp, kC⟩, _⟩, kD, kE, kF, kG, kH, kI⟩ := id K
    obtain ⟨z0, z1, ⟨fs, z2, z3⟩, ⟨fb_, z4, z5⟩, ⟨fl, z6, z7⟩, z8, z9, ⟨fq, zA, zB⟩, zC, zD, zE, zF⟩ := id Z
    have w1 := (fr (b + 35) (by omega)).trans z1
    have w2 : ab_I G h (b + 37) 100 fs := (fr _ (by omega)).trans z2
    have w4 : ab_I G h (b + 38) 100 fb_ := (fr _ (by omega)).trans z4
    have w6 : ab_Q G h (b + 39) 3 100 fl := (fr _ (by omega)).trans z6
    have w9 := (fr (b + 1) (by omega)).trans z9
    have wA : ab_Q G h (b + 2) 4 64 fq := (fr _ (by omega)).trans zA
    have wB : ab_I G h (b + 40) 400 fb := (fr _ (by omega)).trans k1
    have wC : ab_I G h (b + 44) 401 fs9 := (fr _ (by omega)).trans k5
    have wD : ab_I G h (b + 45) 1600 fa := (fr _ (by omega)).trans k6
    have wE : ab_I G h (b + 46) 1600 fr9 := (fr _ (by omega)).trans k7
    have wF : ab_I G h (b + 47) 1600 ft := (fr _ (by omega)).trans k8
    have wG := (fr (b + 32) (by omega)).trans kD
    have wH := (fr q (by omega)).trans kE
    obtain ⟨n1, n2⟩ := kI i hi f hf
    rw [st_s] at n2
    have hy : y < (T (S.getD i ([], 0)) f).length := by omega
    obtain ⟨m1, m2, m3⟩ := (kB i hi).2 f hf y hy
    have m3 := m3 hw
    obtain ⟨⟨d1, d2⟩, ⟨d3, d4⟩, d5, d6⟩ := n1 y hy
    obtain ⟨fst9, ht9⟩ := H.obj
    refine v_iload dX1_judgeEdges_28 0 rfl ?_
    refine v_aload_n dX1_judgeEdges_30 rfl 4 rfl ?_
    refine v_getf 1 (ci := 0) (C := RX1) (T := TX1) (N := 6) rfl iwX1_judgeEdges_X1 (Nat.le_of_ble_eq_true rfl) (by decide +kernel) dX1_judgeEdges_31 (by first | with_reducible assumption) rfl ?_
    refine v_iload_n dX1_judgeEdges_34 rfl 3 rfl ?_
    refine v_iload_n dX1_judgeEdges_35 rfl 1 rfl ?_
    refine v_callVq (M' := mX8_end) (n := 2) (As := [_, _]) (ci := 6) (r := (RX8, TX8, 14)) gX1_judgeEdges_X8_end rfl (by decide +kernel) ⟨(Nat.le_of_ble_eq_true rfl), (Nat.le_of_ble_eq_true rfl)⟩ rfl rfl dX1_judgeEdges_36 rfl ⟨(Nat.le_of_ble_eq_true rfl), (Nat.le_of_ble_eq_true rfl)⟩ (Nat.le_of_ble_eq_true rfl) (by first | with_reducible assumption) rfl (c_end G hb _ b k nc np pl R hm pa sz ly vo ar X Y fc oc mp w3 T S q t n0 kd l1 l2 x3 x4 x5 x6 K h fr i hi f hf) (fun v h1 z1 hq => v_pq hq ?_)
    refine v_icmp_ge (tgt := 158) dX1_judgeEdges_39 (by decide) (fun c_39 => ?_) (fun c_39 => ?_)
    · exact absurd c_39 (nI_ge (show st_ T S i f + y < st_ T S i (f + 1) by rw [st_s]; omega) (by rw [st_s]; omega))
    · refine v_aload_n dX1_judgeEdges_42 rfl 4 rfl ?_
      refine v_getf 1 (ci := 0) (C := RX1) (T := TX1) (N := 6) rfl iwX1_judgeEdges_X1 (Nat.le_of_ble_eq_true rfl) (by decide +kernel) dX1_judgeEdges_43 (by first | with_reducible assumption) rfl ?_
      refine v_getf 11 (ci := 6) (C := RX8) (T := TX8) (N := 14) rfl iwX1_judgeEdges_X8 (Nat.le_of_ble_eq_true rfl) (by decide +kernel) dX1_judgeEdges_46 (by first | with_reducible assumption) rfl ?_
      refine v_iload dX1_judgeEdges_49 0 rfl ?_
      refine v_ialdS (v := iN ((T (S.getD i ([], 0)) f).getD y (0, 0, 0)).1) dX1_judgeEdges_51 (by first | with_reducible assumption) (vp_in_nI (by omega) (by omega)) (by rw [nI_clamp (by omega)]; exact m1) ?_
      refine v_istore (L' := [(5, _), (4, _), (3, _), (2, _), (1, _), (0, _)]) dX1_judgeEdges_52 (Nat.le_of_ble_eq_true rfl) rfl ?_
      refine v_aload_n dX1_judgeEdges_54 rfl 5 rfl ?_
      refine v_getf 1 (ci := 0) (C := RX1) (T := TX1) (N := 6) rfl iwX1_judgeEdges_X1 (Nat.le_of_ble_eq_true rfl) (by decide +kernel) dX1_judgeEdges_55 (by first | with_reducible assumption) rfl ?_
      refine v_getf 12 (ci := 6) (C := RX8) (T := TX8) (N := 14) rfl iwX1_judgeEdges_X8 (Nat.le_of_ble_eq_true rfl) (by decide +kernel) dX1_judgeEdges_58 (by first | with_reducible assumption) rfl ?_
      refine v_iload dX1_judgeEdges_61 1 rfl ?_
      refine v_ialdS (v := iN ((T (S.getD i ([], 0)) f).getD y (0, 0, 0)).2.1) dX1_judgeEdges_63 (by first | with_reducible assumption) (vp_in_nI (by omega) (by omega)) (by rw [nI_clamp (by omega)]; exact m2) ?_
      refine v_istore (L' := [(6, _), (5, _), (4, _), (3, _), (2, _), (1, _), (0, _)]) dX1_judgeEdges_64 (Nat.le_of_ble_eq_true rfl) rfl ?_
      refine v_aload_n dX1_judgeEdges_66 rfl 6 rfl ?_
      refine v_getf 1 (ci := 0) (C := RX1) (T := TX1) (N := 6) rfl iwX1_judgeEdges_X1 (Nat.le_of_ble_eq_true rfl) (by decide +kernel) dX1_judgeEdges_67 (by first | with_reducible assumption) rfl ?_
      refine v_getf 13 (ci := 6) (C := RX8) (T := TX8) (N := 14) rfl iwX1_judgeEdges_X8 (Nat.le_of_ble_eq_true rfl) (by decide +kernel) dX1_judgeEdges_70 (by first | with_reducible assumption) rfl ?_
      refine v_iload dX1_judgeEdges_73 2 rfl ?_
      refine v_ialdS (v := iN ((T (S.getD i ([], 0)) f).getD y (0, 0, 0)).2.2) dX1_judgeEdges_75 (by first | with_reducible assumption) (vp_in_nI (by omega) (by omega)) (by rw [nI_clamp (by omega)]; exact m3) ?_
      refine v_istore (L' := [(7, _), (6, _), (5, _), (4, _), (3, _), (2, _), (1, _), (0, _)]) dX1_judgeEdges_76 (Nat.le_of_ble_eq_true rfl) rfl ?_
      refine v_iload dX1_judgeEdges_78 0 rfl ?_
      refine v_iload dX1_judgeEdges_80 1 rfl ?_
      refine v_isub dX1_judgeEdges_82 ?_
      rw [← iN_sub]
      refine v_aload_n dX1_judgeEdges_83 rfl 7 rfl ?_
      refine v_getf 4 (ci := 0) (C := RX1) (T := TX1) (N := 6) rfl iwX1_judgeEdges_X1 (Nat.le_of_ble_eq_true rfl) (by decide +kernel) dX1_judgeEdges_84 (by first | with_reducible assumption) rfl ?_
      refine v_getf 4 (ci := 5) (C := RX7) (T := TX7) (N := 8) rfl iwX1_judgeEdges_X7 (Nat.le_of_ble_eq_true rfl) (by decide +kernel) dX1_judgeEdges_87 (by first | with_reducible assumption) rfl ?_
      refine v_icmp_lt (tgt := 96) dX1_judgeEdges_90 (by decide) (fun c_90 => ?_) (fun c_90 => ?_)
      · refine v_iload_n dX1_judgeEdges_96 rfl 4 rfl ?_
        refine v_callSq (M' := mX1_isUpright) (n := 1) (As := [_]) ggX1_judgeEdges_X1_isUpright (by decide +kernel) (by decide +kernel) (by decide +kernel) rfl (by decide +kernel) ⟨(Nat.le_of_ble_eq_true rfl), (Nat.le_of_ble_eq_true rfl)⟩ dX1_judgeEdges_97 rfl ⟨(Nat.le_of_ble_eq_true rfl), (Nat.le_of_ble_eq_true rfl)⟩ (Nat.le_of_ble_eq_true rfl) rfl (c_upr G _ _ f hf) (fun v h1 z1 hq => v_pq hq ?_)
        refine v_if_eq (tgt := 129) dX1_judgeEdges_100 (by decide) (fun c_100 => ?_) (fun c_100 => ?_)
        · refine v_aload_n dX1_judgeEdges_129 rfl 7 rfl ?_
          refine v_getf 5 (ci := 0) (C := RX1) (T := TX1) (N := 6) rfl iwX1_judgeEdges_X1 (Nat.le_of_ble_eq_true rfl) (by decide +kernel) dX1_judgeEdges_130 (by first | with_reducible assumption) rfl ?_
          refine v_iload dX1_judgeEdges_133 1 rfl ?_
          refine v_iload dX1_judgeEdges_135 2 rfl ?_
          refine v_iload dX1_judgeEdges_137 0 rfl ?_
          refine v_iload dX1_judgeEdges_139 2 rfl ?_
          refine v_iload_n dX1_judgeEdges_141 rfl 5 rfl ?_
          refine v_iconst (v := (-1)) dX1_judgeEdges_142 (by decide) ?_
          refine v_iload dX1_judgeEdges_143 0 rfl ?_
          refine v_iload dX1_judgeEdges_145 1 rfl ?_
          refine v_isub dX1_judgeEdges_147 ?_
          rw [← iN_sub]
          refine v_i2l dX1_judgeEdges_148 rfl ?_
          refine v_callVq (M' := mX10_add) (n := 7) (As := [_, _, _, _, _, _, _]) (ci := 8) (r := (RX10, TX10, 7)) gX1_judgeEdges_X10_add rfl (by decide +kernel) ⟨(Nat.le_of_ble_eq_true rfl), (Nat.le_of_ble_eq_true rfl)⟩ rfl rfl dX1_judgeEdges_149 rfl ⟨(Nat.le_of_ble_eq_true rfl), (Nat.le_of_ble_eq_true rfl)⟩ (Nat.le_of_ble_eq_true rfl) (by first | with_reducible assumption) rfl (c_addN G h _ t hmI _ H ((T (S.getD i ([], 0)) f).getD y (0, 0, 0)).2.1 ((T (S.getD i ([], 0)) f).getD y (0, 0, 0)).1 ((T (S.getD i ([], 0)) f).getD y (0, 0, 0)).2.2 ((T (S.getD i ([], 0)) f).getD y (0, 0, 0)).1 ((S.getD i ([], 0)).2 : Int) (-1) _ (((T (S.getD i ([], 0)) f).getD y (0, 0, 0)).2.2 - ((T (S.getD i ([], 0)) f).getD y (0, 0, 0)).2.1) (show bd _ from by unfold bd; omega) (show bd _ from by unfold bd; omega) (show bd _ from by unfold bd; omega) (show bd _ from by unfold bd; omega) (show bd ((S.getD i ([], 0)).2 : Int) from by have := (zE i hi).1; unfold bd; omega) (show bd (-1) from by unfold bd; omega) hbm (iN_64 (by omega) (by omega)) rfl (by decide)) (fun v h2 z2 hq9 => ?_)
          obtain ⟨rfl, rfl, H1, fr1⟩ := hq9
          refine v_iinc (j := 3) (L' := [(4, _), (7, _), (6, _), (5, _), (3, _), (2, _), (1, _), (0, _)]) (v := nI (st_ T S i f + (y + 1))) dX1_judgeEdges_152 rfl (nI_1 _) (Nat.le_of_ble_eq_true rfl) rfl ?_
          refine v_goto (tgt := 28) dX1_judgeEdges_155 (by decide) ?_
          refine v_sub (L' := [(4, _), (3, _), (2, _), (1, _), (0, _)]) [0, 4, 5, 6, 7] rfl ?_
          first
            | (have c9 := H1
               refine ih (y + 1) _ (by omega) (fun a9 p9 => (fr1 a9 p9).trans (fr a9 p9)) ?_
               rw [flT_s hy, ← List.append_assoc, show edR x3 ((S.getD i ([], 0)).2 : Int) hmI f ((T (S.getD i ([], 0)) f).getD y (0, 0, 0)) = [_] from if_pos (show (((T (S.getD i ([], 0)) f).getD y (0, 0, 0)).2.2 - ((T (S.getD i ([], 0)) f).getD y (0, 0, 0)).2.1) < x3.toInt from by have q9 := c_90; rw [Int32.lt_iff_toInt_lt, iN_to (by omega) (by omega)] at q9; exact q9)]
               first
                 | (rw [if_pos (sv_ifn c_100)]; exact c9)
                 | (rw [if_neg (sv_ift c_100)]; exact c9))
            | (refine ih (y + 1) _ (by omega) fr ?_
               rw [flT_s hy, show edR x3 ((S.getD i ([], 0)).2 : Int) hmI f ((T (S.getD i ([], 0)) f).getD y (0, 0, 0)) = [] from if_neg (show ¬ (((T (S.getD i ([], 0)) f).getD y (0, 0, 0)).2.2 - ((T (S.getD i ([], 0)) f).getD y (0, 0, 0)).2.1) < x3.toInt from by have q9 := Int32.not_lt.mp c_90; rw [Int32.le_iff_toInt_le, iN_to (by omega) (by omega)] at q9; omega), List.append_nil]
               exact H)
        · refine v_aload_n dX1_judgeEdges_103 rfl 7 rfl ?_
          refine v_getf 5 (ci := 0) (C := RX1) (T := TX1) (N := 6) rfl iwX1_judgeEdges_X1 (Nat.le_of_ble_eq_true rfl) (by decide +kernel) dX1_judgeEdges_104 (by first | with_reducible assumption) rfl ?_
          refine v_iload dX1_judgeEdges_107 2 rfl ?_
          refine v_iload dX1_judgeEdges_109 1 rfl ?_
          refine v_iload dX1_judgeEdges_111 2 rfl ?_
          refine v_iload dX1_judgeEdges_113 0 rfl ?_
          refine v_iload_n dX1_judgeEdges_115 rfl 5 rfl ?_
          refine v_iconst (v := (-1)) dX1_judgeEdges_116 (by decide) ?_
          refine v_iload dX1_judgeEdges_117 0 rfl ?_
          refine v_iload dX1_judgeEdges_119 1 rfl ?_
          refine v_isub dX1_judgeEdges_121 ?_
          rw [← iN_sub]
          refine v_i2l dX1_judgeEdges_122 rfl ?_
          refine v_callVq (M' := mX10_add) (n := 7) (As := [_, _, _, _, _, _, _]) (ci := 8) (r := (RX10, TX10, 7)) gX1_judgeEdges_X10_add rfl (by decide +kernel) ⟨(Nat.le_of_ble_eq_true rfl), (Nat.le_of_ble_eq_true rfl)⟩ rfl rfl dX1_judgeEdges_123 rfl ⟨(Nat.le_of_ble_eq_true rfl), (Nat.le_of_ble_eq_true rfl)⟩ (Nat.le_of_ble_eq_true rfl) (by first | with_reducible assumption) rfl (c_addN G h _ t hmI _ H ((T (S.getD i ([], 0)) f).getD y (0, 0, 0)).1 ((T (S.getD i ([], 0)) f).getD y (0, 0, 0)).2.1 ((T (S.getD i ([], 0)) f).getD y (0, 0, 0)).1 ((T (S.getD i ([], 0)) f).getD y (0, 0, 0)).2.2 ((S.getD i ([], 0)).2 : Int) (-1) _ (((T (S.getD i ([], 0)) f).getD y (0, 0, 0)).2.2 - ((T (S.getD i ([], 0)) f).getD y (0, 0, 0)).2.1) (show bd _ from by unfold bd; omega) (show bd _ from by unfold bd; omega) (show bd _ from by unfold bd; omega) (show bd _ from by unfold bd; omega) (show bd ((S.getD i ([], 0)).2 : Int) from by have := (zE i hi).1; unfold bd; omega) (show bd (-1) from by unfold bd; omega) hbm (iN_64 (by omega) (by omega)) rfl (by decide)) (fun v h2 z2 hq9 => ?_)
          obtain ⟨rfl, rfl, H1, fr1⟩ := hq9
          refine v_goto (tgt := 152) dX1_judgeEdges_126 (by decide) ?_
          refine v_iinc (j := 3) (L' := [(4, _), (7, _), (6, _), (5, _), (3, _), (2, _), (1, _), (0, _)]) (v := nI (st_ T S i f + (y + 1))) dX1_judgeEdges_152 rfl (nI_1 _) (Nat.le_of_ble_eq_true rfl) rfl ?_
          refine v_goto (tgt := 28) dX1_judgeEdges_155 (by decide) ?_
          refine v_sub (L' := [(4, _), (3, _), (2, _), (1, _), (0, _)]) [0, 4, 5, 6, 7] rfl ?_
          first
            | (have c9 := H1
               refine ih (y + 1) _ (by omega) (fun a9 p9 => (fr1 a9 p9).trans (fr a9 p9)) ?_
               rw [flT_s hy, ← List.append_assoc, show edR x3 ((S.getD i ([], 0)).2 : Int) hmI f ((T (S.getD i ([], 0)) f).getD y (0, 0, 0)) = [_] from if_pos (show (((T (S.getD i ([], 0)) f).getD y (0, 0, 0)).2.2 - ((T (S.getD i ([], 0)) f).getD y (0, 0, 0)).2.1) < x3.toInt from by have q9 := c_90; rw [Int32.lt_iff_toInt_lt, iN_to (by omega) (by omega)] at q9; exact q9)]
               first
                 | (rw [if_pos (sv_ifn c_100)]; exact c9)
                 | (rw [if_neg (sv_ift c_100)]; exact c9))
            | (refine ih (y + 1) _ (by omega) fr ?_
               rw [flT_s hy, show edR x3 ((S.getD i ([], 0)).2 : Int) hmI f ((T (S.getD i ([], 0)) f).getD y (0, 0, 0)) = [] from if_neg (show ¬ (((T (S.getD i ([], 0)) f).getD y (0, 0, 0)).2.2 - ((T (S.getD i ([], 0)) f).getD y (0, 0, 0)).2.1) < x3.toInt from by have q9 := Int32.not_lt.mp c_90; rw [Int32.le_iff_toInt_le, iN_to (by omega) (by omega)] at q9; omega), List.append_nil]
               exact H)
      · refine v_goto (tgt := 152) dX1_judgeEdges_93 (by decide) ?_
        refine v_iinc (j := 3) (L' := [(4, _), (7, _), (6, _), (5, _), (3, _), (2, _), (1, _), (0, _)]) (v := nI (st_ T S i f + (y + 1))) dX1_judgeEdges_152 rfl (nI_1 _) (Nat.le_of_ble_eq_true rfl) rfl ?_
        refine v_goto (tgt := 28) dX1_judgeEdges_155 (by decide) ?_
        refine v_sub (L' := [(4, _), (3, _), (2, _), (1, _), (0, _)]) [0, 4, 5, 6, 7] rfl ?_
        first
          | (have c9 := H1
             refine ih (y + 1) _ (by omega) (fun a9 p9 => (fr1 a9 p9).trans (fr a9 p9)) ?_
             rw [flT_s hy, ← List.append_assoc, show edR x3 ((S.getD i ([], 0)).2 : Int) hmI f ((T (S.getD i ([], 0)) f).getD y (0, 0, 0)) = [_] from if_pos (show (((T (S.getD i ([], 0)) f).getD y (0, 0, 0)).2.2 - ((T (S.getD i ([], 0)) f).getD y (0, 0, 0)).2.1) < x3.toInt from by have q9 := c_90; rw [Int32.lt_iff_toInt_lt, iN_to (by omega) (by omega)] at q9; exact q9)]
             first
               | (rw [if_pos (sv_ifn c_100)]; exact c9)
               | (rw [if_neg (sv_ift c_100)]; exact c9))
          | (refine ih (y + 1) _ (by omega) fr ?_
             rw [flT_s hy, show edR x3 ((S.getD i ([], 0)).2 : Int) hmI f ((T (S.getD i ([], 0)) f).getD y (0, 0, 0)) = [] from if_neg (show ¬ (((T (S.getD i ([], 0)) f).getD y (0, 0, 0)).2.2 - ((T (S.getD i ([], 0)) f).getD y (0, 0, 0)).2.1) < x3.toInt from by have q9 := Int32.not_lt.mp c_90; rw [Int32.le_iff_toInt_le, iN_to (by omega) (by omega)] at q9; omega), List.append_nil]
             exact H)

set_option maxHeartbeats 4000000 in
set_option maxRecDepth 100000 in
theorem l_edO (G : sv_G) (Qr : Option Value → sv_h → Nat → Prop) (hb : sv_h) (z b : Nat) (k : Int32) (nc np pl : Nat) (R : Nat → Bool) (hm pa sz : Nat → Nat) (ly vo ar : Nat → Int32) (X Y : Nat → Nat → Int) (fc : Nat → Nat → Nat) (oc : Nat → Nat → Option Nat) (mp : Nat → mvT) (w3 : Bool) (T : List Nat × Nat → Nat → List (Int × Int × Int)) (S : List (List Nat × Nat)) (q t : Nat) (n0 : Int64) (kd : Nat) (l1 l2 x3 x4 x5 x6 : Int32) (K : ck_ G w3 b k nc np pl R hm pa sz ly vo ar X Y fc oc mp T S q t n0 kd l1 l2 x3 x4 x5 x6 hb) (hw : w3 = true) (hmI : Int) (hbm : bd hmI) (i : Nat) (hi : i < S.length) (E0 : List (List Int64)) (hk : ∀ h, (∀ a, ¬ (t ≤ a ∧ a < t + 4) → h a = hb a) → tE G h t (iN hmI) (E0 ++ (jEd x3 hmI T (S.getD i ([], 0)) 4)) → Qr none h z) : ∀ (e f : Nat) (h : sv_h), f + e = 4 → (∀ a, ¬ (t ≤ a ∧ a < t + 4) → h a = hb a) → tE G h t (iN hmI) (E0 ++ (jEd x3 hmI T (S.getD i ([], 0)) f)) → V G mX1_judgeEdges (sv_MQ G mX1_judgeEdges Qr) 12 [(3, .int (nI f)), (2, .int (nI (S.getD i ([], 0)).2)), (1, .int (nI i)), (0, .ref (b + 32))] [] h z 0 0 := by
  intro e
  induction e with
  | zero =>
    intro f h hfe fr H
    obtain ⟨Z, ⟨⟨fb, fcx, fcy, k1, k2, k3, k4⟩, ⟨fs9, fa, fr9, ft, k5, k6, k7, k8, k9, kA, kB⟩, ⟨fsp, kC⟩, _⟩, kD, kE, kF, kG, kH, kI⟩ := id K
    obtain ⟨z0, z1, ⟨fs, z2, z3⟩, ⟨fb_, z4, z5⟩, ⟨fl, z6, z7⟩, z8, z9, ⟨fq, zA, zB⟩, zC, zD, zE, zF⟩ := id Z
    have w1 := (fr (b + 35) (by omega)).trans z1
    have w2 : ab_I G h (b + 37) 100 fs := (fr _ (by omega)).trans z2
    have w4 : ab_I G h (b + 38) 100 fb_ := (fr _ (by omega)).trans z4
    have w6 : ab_Q G h (b + 39) 3 100 fl := (fr _ (by omega)).trans z6
    have w9 := (fr (b + 1) (by omega)).trans z9
    have wA : ab_Q G h (b + 2) 4 64 fq := (fr _ (by omega)).trans zA
    have wB : ab_I G h (b + 40) 400 fb := (fr _ (by omega)).trans k1
    have wC : ab_I G h (b + 44) 401 fs9 := (fr _ (by omega)).trans k5
    have wD : ab_I G h (b + 45) 1600 fa := (fr _ (by omega)).trans k6
    have wE : ab_I G h (b + 46) 1600 fr9 := (fr _ (by omega)).trans k7
    have wF : ab_I G h (b + 47) 1600 ft := (fr _ (by omega)).trans k8
    have wG := (fr (b + 32) (by omega)).trans kD
    have wH := (fr q (by omega)).trans kE
    have e9 : f = 4 := by omega
    subst e9
    refine v_iload_n dX1_judgeEdges_12 rfl 0 rfl ?_
    refine v_iconst (v := 4) dX1_judgeEdges_13 (by decide) ?_
    refine v_icmp_ge (tgt := 164) dX1_judgeEdges_14 (by decide) (fun c_14 => ?_) (fun c_14 => ?_)
    · exact v_ret rfl dX1_judgeEdges_164 (Nat.le_of_ble_eq_true rfl) (Nat.le_of_ble_eq_true rfl) (hk h fr H)
    · exact absurd (by decide) c_14
  | succ e ih =>
    intro f h hfe fr H
    obtain ⟨Z, ⟨⟨fb, fcx, fcy, k1, k2, k3, k4⟩, ⟨fs9, fa, fr9, ft, k5, k6, k7, k8, k9, kA, kB⟩, ⟨fsp, kC⟩, _⟩, kD, kE, kF, kG, kH, kI⟩ := id K
    obtain ⟨z0, z1, ⟨fs, z2, z3⟩, ⟨fb_, z4, z5⟩, ⟨fl, z6, z7⟩, z8, z9, ⟨fq, zA, zB⟩, zC, zD, zE, zF⟩ := id Z
    have w1 := (fr (b + 35) (by omega)).trans z1
    have w2 : ab_I G h (b + 37) 100 fs := (fr _ (by omega)).trans z2
    have w4 : ab_I G h (b + 38) 100 fb_ := (fr _ (by omega)).trans z4
    have w6 : ab_Q G h (b + 39) 3 100 fl := (fr _ (by omega)).trans z6
    have w9 := (fr (b + 1) (by omega)).trans z9
    have wA : ab_Q G h (b + 2) 4 64 fq := (fr _ (by omega)).trans zA
    have wB : ab_I G h (b + 40) 400 fb := (fr _ (by omega)).trans k1
    have wC : ab_I G h (b + 44) 401 fs9 := (fr _ (by omega)).trans k5
    have wD : ab_I G h (b + 45) 1600 fa := (fr _ (by omega)).trans k6
    have wE : ab_I G h (b + 46) 1600 fr9 := (fr _ (by omega)).trans k7
    have wF : ab_I G h (b + 47) 1600 ft := (fr _ (by omega)).trans k8
    have wG := (fr (b + 32) (by omega)).trans kD
    have wH := (fr q (by omega)).trans kE
    have hf : f < 4 := by omega
    refine v_iload_n dX1_judgeEdges_12 rfl 0 rfl ?_
    refine v_iconst (v := 4) dX1_judgeEdges_13 (by decide) ?_
    refine v_icmp_ge (tgt := 164) dX1_judgeEdges_14 (by decide) (fun c_14 => ?_) (fun c_14 => ?_)
    · exact absurd c_14 (nI_ge (a := f) (b := 4) hf (by omega))
    · refine v_aload_n dX1_judgeEdges_17 rfl 3 rfl ?_
      refine v_getf 1 (ci := 0) (C := RX1) (T := TX1) (N := 6) rfl iwX1_judgeEdges_X1 (Nat.le_of_ble_eq_true rfl) (by decide +kernel) dX1_judgeEdges_18 (by first | with_reducible assumption) rfl ?_
      refine v_iload_n dX1_judgeEdges_21 rfl 2 rfl ?_
      refine v_iload_n dX1_judgeEdges_22 rfl 0 rfl ?_
      refine v_callVq (M' := mX8_begin) (n := 2) (As := [_, _]) (ci := 6) (r := (RX8, TX8, 14)) gX1_judgeEdges_X8_begin rfl (by decide +kernel) ⟨(Nat.le_of_ble_eq_true rfl), (Nat.le_of_ble_eq_true rfl)⟩ rfl rfl dX1_judgeEdges_23 rfl ⟨(Nat.le_of_ble_eq_true rfl), (Nat.le_of_ble_eq_true rfl)⟩ (Nat.le_of_ble_eq_true rfl) (by first | with_reducible assumption) rfl (c_begin G hb _ b k nc np pl R hm pa sz ly vo ar X Y fc oc mp w3 T S q t n0 kd l1 l2 x3 x4 x5 x6 K h fr i hi f hf) (fun v h1 z1 hq => v_pq hq ?_)
      refine v_istore (L' := [(4, _), (3, _), (2, _), (1, _), (0, _)]) dX1_judgeEdges_26 (Nat.le_of_ble_eq_true rfl) rfl ?_
      refine v_sub (L' := [(4, _), (3, _), (2, _), (1, _), (0, _)]) [0, 1, 2, 3, 4] rfl ?_
      refine l_edI G Qr hb _ b k nc np pl R hm pa sz ly vo ar X Y fc oc mp w3 T S q t n0 kd l1 l2 x3 x4 x5 x6 K hw hmI hbm i hi f hf (E0 ++ (jEd x3 hmI T (S.getD i ([], 0)) f)) (fun h2 fr2 H2 => ?_) (T (S.getD i ([], 0)) f).length 0 h (by omega) fr (by rw [show flT (edR x3 ((S.getD i ([], 0)).2 : Int) hmI f) (T (S.getD i ([], 0)) f) 0 = [] from rfl, List.append_nil]; exact H)
      refine v_iinc (j := 1) (L' := [(3, _), (4, _), (2, _), (1, _), (0, _)]) (v := nI (f + 1)) dX1_judgeEdges_158 rfl (nI_1 _) (Nat.le_of_ble_eq_true rfl) rfl ?_
      refine v_goto (tgt := 12) dX1_judgeEdges_161 (by decide) ?_
      refine v_sub (L' := [(3, _), (2, _), (1, _), (0, _)]) [0, 2, 3, 4] rfl ?_
      refine ih (f + 1) h2 (by omega) fr2 ?_
      rw [jEd_s, ← List.append_assoc]
      exact H2

set_option maxHeartbeats 4000000 in
set_option maxRecDepth 100000 in
theorem c_jEdges (G : sv_G) (hb : sv_h) (z b : Nat) (k : Int32) (nc np pl : Nat) (R : Nat → Bool) (hm pa sz : Nat → Nat) (ly vo ar : Nat → Int32) (X Y : Nat → Nat → Int) (fc : Nat → Nat → Nat) (oc : Nat → Nat → Option Nat) (mp : Nat → mvT) (w3 : Bool) (T : List Nat × Nat → Nat → List (Int × Int × Int)) (S : List (List Nat × Nat)) (q t : Nat) (n0 : Int64) (kd : Nat) (l1 l2 x3 x4 x5 x6 : Int32) (K : ck_ G w3 b k nc np pl R hm pa sz ly vo ar X Y fc oc mp T S q t n0 kd l1 l2 x3 x4 x5 x6 hb) (hw : w3 = true) (hmI : Int) (hbm : bd hmI) (i : Nat) (hi : i < S.length) (h : sv_h) (fr : ∀ a, ¬ (t ≤ a ∧ a < t + 4) → h a = hb a) (E0 : List (List Int64)) (H : tE G h t (iN hmI) E0) : CT G mX1_judgeEdges [.ref (b + 32), .int (nI i)] h z (fun v h1 z1 => v = none ∧ z1 = z ∧ tE G h1 t (iN hmI) (E0 ++ (jEd x3 hmI T (S.getD i ([], 0)) 4)) ∧ ∀ a, ¬ (t ≤ a ∧ a < t + 4) → h1 a = hb a) := by
  refine CT.of (by decide +kernel) rfl rfl (Nat.le_of_ble_eq_true rfl) ?_
  obtain ⟨Z, ⟨⟨fb, fcx, fcy, k1, k2, k3, k4⟩, ⟨fs9, fa, fr9, ft, k5, k6, k7, k8, k9, kA, kB⟩, ⟨fsp, kC⟩, _⟩, kD, kE, kF, kG, kH, kI⟩ := id K
  obtain ⟨z0, z1, ⟨fs, z2, z3⟩, ⟨fb_, z4, z5⟩, ⟨fl, z6, z7⟩, z8, z9, ⟨fq, zA, zB⟩, zC, zD, zE, zF⟩ := id Z
  have w1 := (fr (b + 35) (by omega)).trans z1
  have w2 : ab_I G h (b + 37) 100 fs := (fr _ (by omega)).trans z2
  have w4 : ab_I G h (b + 38) 100 fb_ := (fr _ (by omega)).trans z4
  have w6 : ab_Q G h (b + 39) 3 100 fl := (fr _ (by omega)).trans z6
  have w9 := (fr (b + 1) (by omega)).trans z9
  have wA : ab_Q G h (b + 2) 4 64 fq := (fr _ (by omega)).trans zA
  have wB : ab_I G h (b + 40) 400 fb := (fr _ (by omega)).trans k1
  have wC : ab_I G h (b + 44) 401 fs9 := (fr _ (by omega)).trans k5
  have wD : ab_I G h (b + 45) 1600 fa := (fr _ (by omega)).trans k6
  have wE : ab_I G h (b + 46) 1600 fr9 := (fr _ (by omega)).trans k7
  have wF : ab_I G h (b + 47) 1600 ft := (fr _ (by omega)).trans k8
  have wG := (fr (b + 32) (by omega)).trans kD
  have wH := (fr q (by omega)).trans kE
  refine v_aload_n dX1_judgeEdges_0 rfl 0 rfl ?_
  refine v_getf 1 (ci := 0) (C := RX1) (T := TX1) (N := 6) rfl iwX1_judgeEdges_X1 (Nat.le_of_ble_eq_true rfl) (by decide +kernel) dX1_judgeEdges_1 (by first | with_reducible assumption) rfl ?_
  refine v_getf 3 (ci := 6) (C := RX8) (T := TX8) (N := 14) rfl iwX1_judgeEdges_X8 (Nat.le_of_ble_eq_true rfl) (by decide +kernel) dX1_judgeEdges_4 (by first | with_reducible assumption) rfl ?_
  refine v_iload_n dX1_judgeEdges_7 rfl 1 rfl ?_
  refine v_ialdS (v := nI (S.getD i ([], 0)).2) dX1_judgeEdges_8 (by first | with_reducible assumption) (vp_in_nI (by omega) (by omega)) (by rw [nI_clamp (by omega)]; exact z3 i hi) ?_
  refine v_istore_n (L' := [(2, _), (0, _), (1, _)]) dX1_judgeEdges_9 rfl (Nat.le_of_ble_eq_true rfl) rfl ?_
  refine v_iconst (v := 0) dX1_judgeEdges_10 (by decide) ?_
  refine v_istore_n (L' := [(3, _), (2, _), (0, _), (1, _)]) dX1_judgeEdges_11 rfl (Nat.le_of_ble_eq_true rfl) rfl ?_
  refine v_sub (L' := [(3, _), (2, _), (1, _), (0, _)]) [0, 1, 3, 2] rfl ?_
  exact l_edO G _ hb _ b k nc np pl R hm pa sz ly vo ar X Y fc oc mp w3 T S q t n0 kd l1 l2 x3 x4 x5 x6 K hw hmI hbm i hi E0 (fun h2 fr2 H2 => ⟨rfl, rfl, H2, fr2⟩) 4 0 h rfl fr (by rw [show (jEd x3 hmI T (S.getD i ([], 0)) 0) = [] from rfl, List.append_nil]; exact H)

