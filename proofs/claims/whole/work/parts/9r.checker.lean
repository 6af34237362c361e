theorem iwX8_end_X8 : ∀ w ∈ wsX80, w ∈ wsX8_end := by decide +kernel
theorem iwX8_begin_X8 : ∀ w ∈ wsX80, w ∈ wsX8_begin := by decide +kernel
theorem iwX7_leastRun_X7 : ∀ w ∈ wsX70, w ∈ wsX7_leastRun := by decide +kernel
theorem iwX1_areEnds_X1 : ∀ w ∈ wsX10, w ∈ wsX1_areEnds := by decide +kernel
theorem iwX1_areEnds_X7 : ∀ w ∈ wsX70, w ∈ wsX1_areEnds := by decide +kernel
theorem iwX1_areEnds_X8 : ∀ w ∈ wsX80, w ∈ wsX1_areEnds := by decide +kernel
theorem dX1_areEnds_0 : decode cX1_areEnds 0 = .ok (.aload_n 0, 1) := by decide +kernel
theorem dX1_areEnds_1 : decode cX1_areEnds 1 = .ok (.getfield 30, 3) := by decide +kernel
theorem dX1_areEnds_4 : decode cX1_areEnds 4 = .ok (.getfield 210, 3) := by decide +kernel
theorem dX1_areEnds_7 : decode cX1_areEnds 7 = .ok (.iload_n 1, 1) := by decide +kernel
theorem dX1_areEnds_8 : decode cX1_areEnds 8 = .ok (.iaload, 1) := by decide +kernel
theorem dX1_areEnds_9 : decode cX1_areEnds 9 = .ok (.aload_n 0, 1) := by decide +kernel
theorem dX1_areEnds_10 : decode cX1_areEnds 10 = .ok (.getfield 30, 3) := by decide +kernel
theorem dX1_areEnds_13 : decode cX1_areEnds 13 = .ok (.getfield 207, 3) := by decide +kernel
theorem dX1_areEnds_16 : decode cX1_areEnds 16 = .ok (.iload_n 1, 1) := by decide +kernel
theorem dX1_areEnds_17 : decode cX1_areEnds 17 = .ok (.iaload, 1) := by decide +kernel
theorem dX1_areEnds_18 : decode cX1_areEnds 18 = .ok (.isub, 1) := by decide +kernel
theorem dX1_areEnds_19 : decode cX1_areEnds 19 = .ok (.aload_n 0, 1) := by decide +kernel
theorem dX1_areEnds_20 : decode cX1_areEnds 20 = .ok (.getfield 30, 3) := by decide +kernel
theorem dX1_areEnds_23 : decode cX1_areEnds 23 = .ok (.getfield 210, 3) := by decide +kernel
theorem dX1_areEnds_26 : decode cX1_areEnds 26 = .ok (.iload_n 2, 1) := by decide +kernel
theorem dX1_areEnds_27 : decode cX1_areEnds 27 = .ok (.iaload, 1) := by decide +kernel
theorem dX1_areEnds_28 : decode cX1_areEnds 28 = .ok (.aload_n 0, 1) := by decide +kernel
theorem dX1_areEnds_29 : decode cX1_areEnds 29 = .ok (.getfield 30, 3) := by decide +kernel
theorem dX1_areEnds_32 : decode cX1_areEnds 32 = .ok (.getfield 207, 3) := by decide +kernel
theorem dX1_areEnds_35 : decode cX1_areEnds 35 = .ok (.iload_n 2, 1) := by decide +kernel
theorem dX1_areEnds_36 : decode cX1_areEnds 36 = .ok (.iaload, 1) := by decide +kernel
theorem dX1_areEnds_37 : decode cX1_areEnds 37 = .ok (.isub, 1) := by decide +kernel
theorem dX1_areEnds_38 : decode cX1_areEnds 38 = .ok (.invokestatic 263, 3) := by decide +kernel
theorem dX1_areEnds_41 : decode cX1_areEnds 41 = .ok (.istore_n 3, 1) := by decide +kernel
theorem dX1_areEnds_42 : decode cX1_areEnds 42 = .ok (.aload_n 0, 1) := by decide +kernel
theorem dX1_areEnds_43 : decode cX1_areEnds 43 = .ok (.getfield 41, 3) := by decide +kernel
theorem dX1_areEnds_46 : decode cX1_areEnds 46 = .ok (.getfield 272, 3) := by decide +kernel
theorem dX1_areEnds_49 : decode cX1_areEnds 49 = .ok (.iconst (-1), 1) := by decide +kernel
theorem dX1_areEnds_50 : decode cX1_areEnds 50 = .ok (.if_icmp .eq 14, 3) := by decide +kernel
theorem dX1_areEnds_53 : decode cX1_areEnds 53 = .ok (.iload_n 3, 1) := by decide +kernel
theorem dX1_areEnds_54 : decode cX1_areEnds 54 = .ok (.aload_n 0, 1) := by decide +kernel
theorem dX1_areEnds_55 : decode cX1_areEnds 55 = .ok (.getfield 41, 3) := by decide +kernel
theorem dX1_areEnds_58 : decode cX1_areEnds 58 = .ok (.getfield 272, 3) := by decide +kernel
theorem dX1_areEnds_61 : decode cX1_areEnds 61 = .ok (.if_icmp .ge 7, 3) := by decide +kernel
theorem dX1_areEnds_64 : decode cX1_areEnds 64 = .ok (.iconst 1, 1) := by decide +kernel
theorem dX1_areEnds_65 : decode cX1_areEnds 65 = .ok (.goto 4, 3) := by decide +kernel
theorem dX1_areEnds_68 : decode cX1_areEnds 68 = .ok (.iconst 0, 1) := by decide +kernel
theorem dX1_areEnds_69 : decode cX1_areEnds 69 = .ok (.ireturn, 1) := by decide +kernel
theorem dX1_isUpright_0 : decode cX1_isUpright 0 = .ok (.iload_n 0, 1) := by decide +kernel
theorem dX1_isUpright_1 : decode cX1_isUpright 1 = .ok (.ifCond .eq 8, 3) := by decide +kernel
theorem dX1_isUpright_4 : decode cX1_isUpright 4 = .ok (.iload_n 0, 1) := by decide +kernel
theorem dX1_isUpright_5 : decode cX1_isUpright 5 = .ok (.iconst 2, 1) := by decide +kernel
theorem dX1_isUpright_6 : decode cX1_isUpright 6 = .ok (.if_icmp .ne 7, 3) := by decide +kernel
theorem dX1_isUpright_9 : decode cX1_isUpright 9 = .ok (.iconst 1, 1) := by decide +kernel
theorem dX1_isUpright_10 : decode cX1_isUpright 10 = .ok (.goto 4, 3) := by decide +kernel
theorem dX1_isUpright_13 : decode cX1_isUpright 13 = .ok (.iconst 0, 1) := by decide +kernel
theorem dX1_isUpright_14 : decode cX1_isUpright 14 = .ok (.ireturn, 1) := by decide +kernel
theorem dX7_leastRun_0 : decode cX7_leastRun 0 = .ok (.aload_n 0, 1) := by decide +kernel
theorem dX7_leastRun_1 : decode cX7_leastRun 1 = .ok (.getfield 20, 3) := by decide +kernel
theorem dX7_leastRun_4 : decode cX7_leastRun 4 = .ok (.iconst 1, 1) := by decide +kernel
theorem dX7_leastRun_5 : decode cX7_leastRun 5 = .ok (.if_icmp .ge 7, 3) := by decide +kernel
theorem dX7_leastRun_8 : decode cX7_leastRun 8 = .ok (.iconst 1, 1) := by decide +kernel
theorem dX7_leastRun_9 : decode cX7_leastRun 9 = .ok (.goto 7, 3) := by decide +kernel
theorem dX7_leastRun_12 : decode cX7_leastRun 12 = .ok (.aload_n 0, 1) := by decide +kernel
theorem dX7_leastRun_13 : decode cX7_leastRun 13 = .ok (.getfield 20, 3) := by decide +kernel
theorem dX7_leastRun_16 : decode cX7_leastRun 16 = .ok (.ireturn, 1) := by decide +kernel
theorem dX8_begin_0 : decode cX8_begin 0 = .ok (.aload_n 0, 1) := by decide +kernel
theorem dX8_begin_1 : decode cX8_begin 1 = .ok (.getfield 39, 3) := by decide +kernel
theorem dX8_begin_4 : decode cX8_begin 4 = .ok (.iload_n 1, 1) := by decide +kernel
theorem dX8_begin_5 : decode cX8_begin 5 = .ok (.iconst 4, 1) := by decide +kernel
theorem dX8_begin_6 : decode cX8_begin 6 = .ok (.imul, 1) := by decide +kernel
theorem dX8_begin_7 : decode cX8_begin 7 = .ok (.iload_n 2, 1) := by decide +kernel
theorem dX8_begin_8 : decode cX8_begin 8 = .ok (.iadd, 1) := by decide +kernel
theorem dX8_begin_9 : decode cX8_begin 9 = .ok (.iaload, 1) := by decide +kernel
theorem dX8_begin_10 : decode cX8_begin 10 = .ok (.ireturn, 1) := by decide +kernel
theorem dX8_end_0 : decode cX8_end 0 = .ok (.aload_n 0, 1) := by decide +kernel
theorem dX8_end_1 : decode cX8_end 1 = .ok (.getfield 39, 3) := by decide +kernel
theorem dX8_end_4 : decode cX8_end 4 = .ok (.iload_n 1, 1) := by decide +kernel
theorem dX8_end_5 : decode cX8_end 5 = .ok (.iconst 4, 1) := by decide +kernel
theorem dX8_end_6 : decode cX8_end 6 = .ok (.imul, 1) := by decide +kernel
theorem dX8_end_7 : decode cX8_end 7 = .ok (.iload_n 2, 1) := by decide +kernel
theorem dX8_end_8 : decode cX8_end 8 = .ok (.iadd, 1) := by decide +kernel
theorem dX8_end_9 : decode cX8_end 9 = .ok (.iconst 1, 1) := by decide +kernel
theorem dX8_end_10 : decode cX8_end 10 = .ok (.iadd, 1) := by decide +kernel
theorem dX8_end_11 : decode cX8_end 11 = .ok (.iaload, 1) := by decide +kernel
theorem dX8_end_12 : decode cX8_end 12 = .ok (.ireturn, 1) := by decide +kernel

abbrev mX8_begin : sv_M := (cX8_begin, 3, yX8_begin, wsX8_begin, (some .int), { frames := 0, cells := 0, slots := 0, locals := 0 }, [])
abbrev mX8_end : sv_M := (cX8_end, 3, yX8_end, wsX8_end, (some .int), { frames := 0, cells := 0, slots := 0, locals := 0 }, [])
abbrev mX7_leastRun : sv_M := (cX7_leastRun, 1, yX7_leastRun, wsX7_leastRun, (some .int), { frames := 0, cells := 0, slots := 0, locals := 0 }, [])
abbrev mX1_isUpright : sv_M := (cX1_isUpright, 1, yX1_isUpright, wsX1_isUpright, (some .boolean), { frames := 0, cells := 0, slots := 0, locals := 0 }, [])
abbrev mX1_areEnds : sv_M := (cX1_areEnds, 4, yX1_areEnds, wsX1_areEnds, (some .boolean), { frames := 2, cells := 0, slots := 0, locals := 60 }, [])
theorem iN_64 {x : Int} (h1 : -1000000000 ≤ x) (h2 : x ≤ 1000000000) : (iN x).toInt64 = jN x := by
  rw [← jN_i, iN_to (by omega) (by omega)]
/-- a row, of whole numbers -/
def rwI (x0 y0 x1 y1 a c m hm : Int) : List Int64 := [jN x0, jN y0, jN x1, jN y1, jN a, jN c, jN m, jN hm, jN x0, jN y0, jN x1, jN y1]
def bd (x : Int) : Prop := -1000000000 ≤ x ∧ x ≤ 1000000000
theorem rw_I {x0 y0 x1 y1 a c hm : Int} {m : Int64} {m0 : Int} (h0 : bd x0) (h1 : bd y0) (h2 : bd x1) (h3 : bd y1) (h4 : bd a) (h5 : bd c) (h6 : bd hm) (h7 : m = jN m0) : rw_ (iN x0) (iN y0) (iN x1) (iN y1) (iN a) (iN c) m (iN hm) = rwI x0 y0 x1 y1 a c m0 hm := by
  unfold rw_ rwI
  rw [iN_64 h0.1 h0.2, iN_64 h1.1 h1.2, iN_64 h2.1 h2.2, iN_64 h3.1 h3.2, iN_64 h4.1 h4.2, iN_64 h5.1 h5.2, iN_64 h6.1 h6.2, h7]
theorem tk_s {α : Type} {l : List α} {x : Nat} (d : α) (h : x < l.length) : l.take (x + 1) = l.take x ++ [l.getD x d] := by
  rw [List.take_succ, List.getD_eq_getElem?_getD, List.getElem?_eq_getElem h]; rfl
abbrev iT : Type := Int × Int × Int
def ib (s : iT) : Prop := (-200000 ≤ s.1 ∧ s.1 ≤ 200000) ∧ (-200000 ≤ s.2.1 ∧ s.2.1 ≤ 200000) ∧ -200000 ≤ s.2.2 ∧ s.2.2 ≤ 200000
/-- what two sides tell -/
def acR (up : Bool) (near lim lr : Int) (en : Int32) (a c hm : Int) (s t : iT) : List (List Int64) := if near ≤ t.1 - s.1 ∧ t.1 - s.1 < lim ∧ lr ≤ min s.2.2 t.2.2 - max s.2.1 t.2.1 ∧ (en = -1 ∨ min (s.2.2 - s.2.1) (t.2.2 - t.2.1) < en.toInt) then [if up then rwI s.1 (max s.2.1 t.2.1) t.1 (min s.2.2 t.2.2) a c (t.1 - s.1) hm else rwI (max s.2.1 t.2.1) s.1 (min s.2.2 t.2.2) t.1 a c (t.1 - s.1) hm] else []
def acL (up : Bool) (near lim lr : Int) (en : Int32) (a c hm : Int) (L1 L2 : List iT) : List (List Int64) := L1.flatMap (fun s => L2.flatMap (fun t => acR up near lim lr en a c hm s t))
/-- the checker at work: scene, rule, list -/
def ck_ (G : sv_G) (w3 : Bool) (b : Nat) (k : Int32) (nc np pl : Nat) (R : Nat → Bool) (hm pa sz : Nat → Nat) (ly vo ar : Nat → Int32) (X Y : Nat → Nat → Int) (fc : Nat → Nat → Nat) (oc : Nat → Nat → Option Nat) (mp : Nat → mvT) (T : List Nat × Nat → Nat → List (Int × Int × Int)) (S : List (List Nat × Nat)) (q t : Nat) (n0 : Int64) (kd : Nat) (l1 l2 x3 x4 x5 x6 : Int32) (hb : sv_h) : Prop :=
  sg_ G b k nc np pl R hm pa sz ly vo ar X Y fc oc mp hb S ∧ sk_ G w3 b sz X Y mp T S S.length hb hb ∧ hb (b + 32) = some (.inr (0, [.ref (b + 1), .ref (b + 35), .ref (b + 33), .ref (b + 34), .ref q, .ref t])) ∧ hb q = some (.inr (5, [.long n0, .ref (G.2.2.2.2.1 kd), .int l1, .int l2, .int x3, .int x4, .int x5, .int x6])) ∧ kd < 11 ∧ (q < b + 32 ∨ (b + 180 ≤ q ∧ q < b + 204)) ∧ (b + 204 ≤ t ∧ t + 4 ≤ b + 220) ∧ ∀ i, i < S.length → ∀ f, f < 4 → (∀ x, x < (T (S.getD i ([], 0)) f).length → ib ((T (S.getD i ([], 0)) f).getD x (0, 0, 0))) ∧ st_ T S i (f + 1) ≤ 1600
set_option maxHeartbeats 4000000 in
set_option maxRecDepth 100000 in
theorem c_begin (G : sv_G) (hb : sv_h) (z b : Nat) (k : Int32) (nc np pl : Nat) (R : Nat → Bool) (hm pa sz : Nat → Nat) (ly vo ar : Nat → Int32) (X Y : Nat → Nat → Int) (fc : Nat → Nat → Nat) (oc : Nat → Nat → Option Nat) (mp : Nat → mvT) (w3 : Bool) (T : List Nat × Nat → Nat → List (Int × Int × Int)) (S : List (List Nat × Nat)) (q t : Nat) (n0 : Int64) (kd : Nat) (l1 l2 x3 x4 x5 x6 : Int32) (K : ck_ G w3 b k nc np pl R hm pa sz ly vo ar X Y fc oc mp T S q t n0 kd l1 l2 x3 x4 x5 x6 hb) (h : sv_h) (fr : ∀ a, ¬ (t ≤ a ∧ a < t + 4) → h a = hb a) (i : Nat) (hi : i < S.length) (f : Nat) (hf : f < 4) : CT G mX8_begin [.ref (b + 35), .int (nI i), .int (nI f)] h z (fun v h1 z1 => v = some (.int (nI (st_ T S i f))) ∧ h1 = h ∧ z1 = z) := by
  refine CT.of (by decide +kernel) rfl rfl (Nat.le_of_ble_eq_true rfl) ?_
  obtain ⟨Z, ⟨⟨fb, fcx, fcy, k1, k2, k3, k4⟩, ⟨fs9, fa, fr9, ft, k5, k6, k7, k8, k9, kA, kB⟩, ⟨fsp, kC⟩, _⟩, kD, kE, kF, kG, kH, kI⟩ := id K
  obtain ⟨z0, z1, ⟨fs, z2, z3⟩, ⟨fb_, z4, z5⟩, ⟨fl, z6, z7⟩, z8, z9, ⟨fq, zA, zB⟩, zC, zD, zE, zF⟩ := id Z
  have w1 := (fr (b + 35) (by omega)).trans z1
  have w2 : ab_I G h (b + 37) 100 fs := (fr _ (by omega)).trans z2
  have w4 : ab_I G h (b + 38) 100 fb_ := (fr _ (by omega)).trans z4
  have w6 : ab_Q G h (b + 39) 3 100 fl := (fr _ (by omega)).trans z6
  have w9 := (fr (b + 1) (by omega)).trans z9
  have wA : ab_Q G h (b + 2) 4 64 fq := (fr _ (by omega)).trans zA
  have wB : ab_I G h (b + 40) 400 fb := (fr _ (by omega)).trans k1
  have wC : ab_I G h (b + 44) 401 fs9 := (fr _ (by omega)).trans k5
  have wD : ab_I G h (b + 45) 1600 fa := (fr _ (by omega)).trans k6
  have wE : ab_I G h (b + 46) 1600 fr9 := (fr _ (by omega)).trans k7
  have wF : ab_I G h (b + 47) 1600 ft := (fr _ (by omega)).trans k8
  have wG := (fr (b + 32) (by omega)).trans kD
  have wH := (fr q (by omega)).trans kE
  refine v_aload_n dX8_begin_0 rfl 0 rfl ?_
  refine v_getf 10 (ci := 6) (C := RX8) (T := TX8) (N := 14) rfl iwX8_begin_X8 (Nat.le_of_ble_eq_true rfl) (by decide +kernel) dX8_begin_1 (by first | with_reducible assumption) rfl ?_
  refine v_iload_n dX8_begin_4 rfl 1 rfl ?_
  refine v_iconst (v := 4) dX8_begin_5 (by decide) ?_
  refine v_imul dX8_begin_6 ?_
  refine v_iload_n dX8_begin_7 rfl 2 rfl ?_
  refine v_iadd dX8_begin_8 ?_
  rw [sv_4 i f]
  refine v_ialdS (v := nI (st_ T S i f)) dX8_begin_9 (by first | with_reducible assumption) (vp_in_nI (by omega) (by omega)) (by rw [nI_clamp (by omega)]; exact (kB i hi).1 f (by omega)) ?_
  exact v_iret rfl dX8_begin_10 (Nat.le_of_ble_eq_true rfl) (Nat.le_of_ble_eq_true rfl) rfl ⟨rfl, rfl, rfl⟩

set_option maxHeartbeats 4000000 in
set_option maxRecDepth 100000 in
theorem c_end (G : sv_G) (hb : sv_h) (z b : Nat) (k : Int32) (nc np pl : Nat) (R : Nat → Bool) (hm pa sz : Nat → Nat) (ly vo ar : Nat → Int32) (X Y : Nat → Nat → Int) (fc : Nat → Nat → Nat) (oc : Nat → Nat → Option Nat) (mp : Nat → mvT) (w3 : Bool) (T : List Nat × Nat → Nat → List (Int × Int × Int)) (S : List (List Nat × Nat)) (q t : Nat) (n0 : Int64) (kd : Nat) (l1 l2 x3 x4 x5 x6 : Int32) (K : ck_ G w3 b k nc np pl R hm pa sz ly vo ar X Y fc oc mp T S q t n0 kd l1 l2 x3 x4 x5 x6 hb) (h : sv_h) (fr : ∀ a, ¬ (t ≤ a ∧ a < t + 4) → h a = hb a) (i : Nat) (hi : i < S.length) (f : Nat) (hf : f < 4) : CT G mX8_end [.ref (b + 35), .int (nI i), .int (nI f)] h z (fun v h1 z1 => v = some (.int (nI (st_ T S i (f + 1)))) ∧ h1 = h ∧ z1 = z) := by
  refine CT.of (by decide +kernel) rfl rfl (Nat.le_of_ble_eq_true rfl) ?_
  obtain ⟨Z, ⟨⟨fb, fcx, fcy, k1, k2, k3, k4⟩, ⟨fs9, fa, fr9, ft, k5, k6, k7, k8, k9, kA, kB⟩, ⟨fsp, kC⟩, _⟩, kD, kE, kF, kG, kH, kI⟩ := id K
  obtain ⟨z0, z1, ⟨fs, z2, z3⟩, ⟨fb_, z4, z5⟩, ⟨fl, z6, z7⟩, z8, z9, ⟨fq, zA, zB⟩, zC, zD, zE, zF⟩ := id Z
  have w1 := (fr (b + 35) (by omega)).trans z1
  have w2 : ab_I G h (b + 37) 100 fs := (fr _ (by omega)).trans z2
  have w4 : ab_I G h (b + 38) 100 fb_ := (fr _ (by omega)).trans z4
  have w6 : ab_Q G h (b + 39) 3 100 fl := (fr _ (by omega)).trans z6
  have w9 := (fr (b + 1) (by omega)).trans z9
  have wA : ab_Q G h (b + 2) 4 64 fq := (fr _ (by omega)).trans zA
  have wB : ab_I G h (b + 40) 400 fb := (fr _ (by omega)).trans k1
  have wC : ab_I G h (b + 44) 401 fs9 := (fr _ (by omega)).trans k5
  have wD : ab_I G h (b + 45) 1600 fa := (fr _ (by omega)).trans k6
  have wE : ab_I G h (b + 46) 1600 fr9 := (fr _ (by omega)).trans k7
  have wF : ab_I G h (b + 47) 1600 ft := (fr _ (by omega)).trans k8
  have wG := (fr (b + 32) (by omega)).trans kD
  have wH := (fr q (by omega)).trans kE
  refine v_aload_n dX8_end_0 rfl 0 rfl ?_
  refine v_getf 10 (ci := 6) (C := RX8) (T := TX8) (N := 14) rfl iwX8_end_X8 (Nat.le_of_ble_eq_true rfl) (by decide +kernel) dX8_end_1 (by first | with_reducible assumption) rfl ?_
  refine v_iload_n dX8_end_4 rfl 1 rfl ?_
  refine v_iconst (v := 4) dX8_end_5 (by decide) ?_
  refine v_imul dX8_end_6 ?_
  refine v_iload_n dX8_end_7 rfl 2 rfl ?_
  refine v_iadd dX8_end_8 ?_
  refine v_iconst (v := 1) dX8_end_9 (by decide) ?_
  refine v_iadd dX8_end_10 ?_
  rw [sv_4 i f, nI_1]
  refine v_ialdS (v := nI (st_ T S i (f + 1))) dX8_end_11 (by first | with_reducible assumption) (vp_in_nI (by omega) (by omega)) (by rw [nI_clamp (by omega)]; exact (kB i hi).1 (f + 1) (by omega)) ?_
  exact v_iret rfl dX8_end_12 (Nat.le_of_ble_eq_true rfl) (Nat.le_of_ble_eq_true rfl) rfl ⟨rfl, rfl, rfl⟩

def lrn (x4 : Int32) : Int32 := if x4 < 1 then 1 else x4
set_option maxHeartbeats 4000000 in
set_option maxRecDepth 100000 in
theorem c_leastRun (G : sv_G) (h : sv_h) (z q : Nat) (n0 : Int64) (kd : Nat) (l1 l2 x3 x4 x5 x6 : Int32) (hr : h q = some (.inr (5, [.long n0, .ref (G.2.2.2.2.1 kd), .int l1, .int l2, .int x3, .int x4, .int x5, .int x6]))) : CT G mX7_leastRun [.ref q] h z (fun v h1 z1 => v = some (.int (lrn x4)) ∧ h1 = h ∧ z1 = z) := by
  refine CT.of (by decide +kernel) rfl rfl (Nat.le_of_ble_eq_true rfl) ?_
  refine v_aload_n dX7_leastRun_0 rfl 0 rfl ?_
  refine v_getf 5 (ci := 5) (C := RX7) (T := TX7) (N := 8) rfl iwX7_leastRun_X7 (Nat.le_of_ble_eq_true rfl) (by decide +kernel) dX7_leastRun_1 (by first | with_reducible assumption) rfl ?_
  refine v_iconst (v := 1) dX7_leastRun_4 (by decide) ?_
  refine v_icmp_ge (tgt := 12) dX7_leastRun_5 (by decide) (fun c_5 => ?_) (fun c_5 => ?_)
  · refine v_aload_n dX7_leastRun_12 rfl 0 rfl ?_
    refine v_getf 5 (ci := 5) (C := RX7) (T := TX7) (N := 8) rfl iwX7_leastRun_X7 (Nat.le_of_ble_eq_true rfl) (by decide +kernel) dX7_leastRun_13 (by first | with_reducible assumption) rfl ?_
    exact v_iret rfl dX7_leastRun_16 (Nat.le_of_ble_eq_true rfl) (Nat.le_of_ble_eq_true rfl) rfl (by
          unfold lrn
          first
            | (have c9 : ¬ x4 < 1 := Int32.not_lt.mpr c_5; rw [if_neg c9]; exact ⟨rfl, rfl, rfl⟩)
            | (have c9 : x4 < 1 := Int32.not_le.mp c_5; rw [if_pos c9]; exact ⟨rfl, rfl, rfl⟩))
  · refine v_iconst (v := 1) dX7_leastRun_8 (by decide) ?_
    refine v_goto (tgt := 16) dX7_leastRun_9 (by decide) ?_
    exact v_iret rfl dX7_leastRun_16 (Nat.le_of_ble_eq_true rfl) (Nat.le_of_ble_eq_true rfl) rfl (by
          unfold lrn
          first
            | (have c9 : ¬ x4 < 1 := Int32.not_lt.mpr c_5; rw [if_neg c9]; exact ⟨rfl, rfl, rfl⟩)
            | (have c9 : x4 < 1 := Int32.not_le.mp c_5; rw [if_pos c9]; exact ⟨rfl, rfl, rfl⟩))

def upr (f : Nat) : Bool := decide (f = 0 ∨ f = 2)
set_option maxHeartbeats 4000000 in
set_option maxRecDepth 100000 in
theorem c_upr0 (G : sv_G) (h : sv_h) (z : Nat) : CT G mX1_isUpright [.int (nI 0)] h z (fun v h1 z1 => v = some (.int 1) ∧ h1 = h ∧ z1 = z) := by
  refine CT.of (by decide +kernel) rfl rfl (Nat.le_of_ble_eq_true rfl) ?_
  refine v_iload_n dX1_isUpright_0 rfl 0 rfl ?_
  refine v_if_eq (tgt := 9) dX1_isUpright_1 (by decide) (fun c_1 => ?_) (fun c_1 => ?_)
  · refine v_iconst (v := 1) dX1_isUpright_9 (by decide) ?_
    refine v_goto (tgt := 14) dX1_isUpright_10 (by decide) ?_
    exact v_iret rfl dX1_isUpright_14 (Nat.le_of_ble_eq_true rfl) (Nat.le_of_ble_eq_true rfl) rfl ⟨rfl, rfl, rfl⟩
  · exact absurd rfl c_1

set_option maxHeartbeats 4000000 in
set_option maxRecDepth 100000 in
theorem c_upr1 (G : sv_G) (h : sv_h) (z : Nat) : CT G mX1_isUpright [.int (nI 1)] h z (fun v h1 z1 => v = some (.int 0) ∧ h1 = h ∧ z1 = z) := by
  refine CT.of (by decide +kernel) rfl rfl (Nat.le_of_ble_eq_true rfl) ?_
  refine v_iload_n dX1_isUpright_0 rfl 0 rfl ?_
  refine v_if_eq (tgt := 9) dX1_isUpright_1 (by decide) (fun c_1 => ?_) (fun c_1 => ?_)
  · exact absurd c_1 (by decide)
  · refine v_iload_n dX1_isUpright_4 rfl 0 rfl ?_
    refine v_iconst (v := 2) dX1_isUpright_5 (by decide) ?_
    refine v_icmp_ne (tgt := 13) dX1_isUpright_6 (by decide) (fun c_6 => ?_) (fun c_6 => ?_)
    · refine v_iconst (v := 0) dX1_isUpright_13 (by decide) ?_
      exact v_iret rfl dX1_isUpright_14 (Nat.le_of_ble_eq_true rfl) (Nat.le_of_ble_eq_true rfl) rfl ⟨rfl, rfl, rfl⟩
    · exact absurd c_6 (by decide)

set_option maxHeartbeats 4000000 in
set_option maxRecDepth 100000 in
theorem c_upr2 (G : sv_G) (h : sv_h) (z : Nat) : CT G mX1_isUpright [.int (nI 2)] h z (fun v h1 z1 => v = some (.int 1) ∧ h1 = h ∧ z1 = z) := by
  refine CT.of (by decide +kernel) rfl rfl (Nat.le_of_ble_eq_true rfl) ?_
  refine v_iload_n dX1_isUpright_0 rfl 0 rfl ?_
  refine v_if_eq (tgt := 9) dX1_isUpright_1 (by decide) (fun c_1 => ?_) (fun c_1 => ?_)
  · exact absurd c_1 (by decide)
  · refine v_iload_n dX1_isUpright_4 rfl 0 rfl ?_
    refine v_iconst (v := 2) dX1_isUpright_5 (by decide) ?_
    refine v_icmp_ne (tgt := 13) dX1_isUpright_6 (by decide) (fun c_6 => ?_) (fun c_6 => ?_)
    · exact absurd rfl c_6
    · refine v_iconst (v := 1) dX1_isUpright_9 (by decide) ?_
      refine v_goto (tgt := 14) dX1_isUpright_10 (by decide) ?_
      exact v_iret rfl dX1_isUpright_14 (Nat.le_of_ble_eq_true rfl) (Nat.le_of_ble_eq_true rfl) rfl ⟨rfl, rfl, rfl⟩

set_option maxHeartbeats 4000000 in
set_option maxRecDepth 100000 in
theorem c_upr3 (G : sv_G) (h : sv_h) (z : Nat) : CT G mX1_isUpright [.int (nI 3)] h z (fun v h1 z1 => v = some (.int 0) ∧ h1 = h ∧ z1 = z) := by
  refine CT.of (by decide +kernel) rfl rfl (Nat.le_of_ble_eq_true rfl) ?_
  refine v_iload_n dX1_isUpright_0 rfl 0 rfl ?_
  refine v_if_eq (tgt := 9) dX1_isUpright_1 (by decide) (fun c_1 => ?_) (fun c_1 => ?_)
  · exact absurd c_1 (by decide)
  · refine v_iload_n dX1_isUpright_4 rfl 0 rfl ?_
    refine v_iconst (v := 2) dX1_isUpright_5 (by decide) ?_
    refine v_icmp_ne (tgt := 13) dX1_isUpright_6 (by decide) (fun c_6 => ?_) (fun c_6 => ?_)
    · refine v_iconst (v := 0) dX1_isUpright_13 (by decide) ?_
      exact v_iret rfl dX1_isUpright_14 (Nat.le_of_ble_eq_true rfl) (Nat.le_of_ble_eq_true rfl) rfl ⟨rfl, rfl, rfl⟩
    · exact absurd c_6 (by decide)

theorem c_upr (G : sv_G) (h : sv_h) (z f : Nat) (hf : f < 4) : CT G mX1_isUpright [.int (nI f)] h z (fun v h1 z1 => v = some (.int (if upr f = true then 1 else 0)) ∧ h1 = h ∧ z1 = z) := by
  rcases sv_q4 hf with rfl | rfl | rfl | rfl
  · exact c_upr0 G h z
  · exact c_upr1 G h z
  · exact c_upr2 G h z
  · exact c_upr3 G h z
set_option maxHeartbeats 4000000 in
set_option maxRecDepth 100000 in
theorem c_areEnds (G : sv_G) (hb : sv_h) (z b : Nat) (k : Int32) (nc np pl : Nat) (R : Nat → Bool) (hm pa sz : Nat → Nat) (ly vo ar : Nat → Int32) (X Y : Nat → Nat → Int) (fc : Nat → Nat → Nat) (oc : Nat → Nat → Option Nat) (mp : Nat → mvT) (w3 : Bool) (T : List Nat × Nat → Nat → List (Int × Int × Int)) (S : List (List Nat × Nat)) (q t : Nat) (n0 : Int64) (kd : Nat) (l1 l2 x3 x4 x5 x6 : Int32) (K : ck_ G w3 b k nc np pl R hm pa sz ly vo ar X Y fc oc mp T S q t n0 kd l1 l2 x3 x4 x5 x6 hb) (h : sv_h) (fr : ∀ a, ¬ (t ≤ a ∧ a < t + 4) → h a = hb a) (i : Nat) (hi : i < S.length) (f : Nat) (hf : f < 4) (x : Nat) (hx : x < (T (S.getD i ([], 0)) f).length) (j : Nat) (hj : j < S.length) (g : Nat) (hg : g < 4) (y : Nat) (hy : y < (T (S.getD j ([], 0)) g).length) (hw : w3 = true) : CT G mX1_areEnds [.ref (b + 32), .int (nI (st_ T S i f + x)), .int (nI (st_ T S j g + y))] h z (fun v h1 z1 => v = some (.int (if (x6 = -1 ∨ min (((T (S.getD i ([], 0)) f).getD x (0, 0, 0)).2.2 - ((T (S.getD i ([], 0)) f).getD x (0, 0, 0)).2.1) (((T (S.getD j ([], 0)) g).getD y (0, 0, 0)).2.2 - ((T (S.getD j ([], 0)) g).getD y (0, 0, 0)).2.1) < x6.toInt) then 1 else 0)) ∧ h1 = h ∧ z1 = z) := by
  refine CT.of (by decide +kernel) rfl rfl (Nat.le_of_ble_eq_true rfl) ?_
  obtain ⟨Z, ⟨⟨fb, fcx, fcy, k1, k2, k3, k4⟩, ⟨fs9, fa, fr9, ft, k5, k6, k7, k8, k9, kA, kB⟩, ⟨fsp, kC⟩, _⟩, kD, kE, kF, kG, kH, kI⟩ := id K
  obtain ⟨z0, z1, ⟨fs, z2, z3⟩, ⟨fb_, z4, z5⟩, ⟨fl, z6, z7⟩, z8, z9, ⟨fq, zA, zB⟩, zC, zD, zE, zF⟩ := id Z
  have w1 := (fr (b + 35) (by omega)).trans z1
  have w2 : ab_I G h (b + 37) 100 fs := (fr _ (by omega)).trans z2
  have w4 : ab_I G h (b + 38) 100 fb_ := (fr _ (by omega)).trans z4
  have w6 : ab_Q G h (b + 39) 3 100 fl := (fr _ (by omega)).trans z6
  have w9 := (fr (b + 1) (by omega)).trans z9
  have wA : ab_Q G h (b + 2) 4 64 fq := (fr _ (by omega)).trans zA
  have wB : ab_I G h (b + 40) 400 fb := (fr _ (by omega)).trans k1
  have wC : ab_I G h (b + 44) 401 fs9 := (fr _ (by omega)).trans k5
  have wD : ab_I G h (b + 45) 1600 fa := (fr _ (by omega)).trans k6
  have wE : ab_I G h (b + 46) 1600 fr9 := (fr _ (by omega)).trans k7
  have wF : ab_I G h (b + 47) 1600 ft := (fr _ (by omega)).trans k8
  have wG := (fr (b + 32) (by omega)).trans kD
  have wH := (fr q (by omega)).trans kE
  obtain ⟨m1, m2, m3⟩ := (kB i hi).2 f hf x hx
  obtain ⟨m4, m5, m6⟩ := (kB j hj).2 g hg y hy
  have m3 := m3 hw
  have m6 := m6 hw
  obtain ⟨n1, n2⟩ := kI i hi f hf
  obtain ⟨n3, n4⟩ := kI j hj g hg
  obtain ⟨⟨d1, d2⟩, ⟨d3, d4⟩, d5, d6⟩ := n1 x hx
  obtain ⟨⟨e1, e2⟩, ⟨e3, e4⟩, e5, e6⟩ := n3 y hy
  rw [st_s] at n2 n4
  refine v_aload_n dX1_areEnds_0 rfl 0 rfl ?_
  refine v_getf 1 (ci := 0) (C := RX1) (T := TX1) (N := 6) rfl iwX1_areEnds_X1 (Nat.le_of_ble_eq_true rfl) (by decide +kernel) dX1_areEnds_1 (by first | with_reducible assumption) rfl ?_
  refine v_getf 13 (ci := 6) (C := RX8) (T := TX8) (N := 14) rfl iwX1_areEnds_X8 (Nat.le_of_ble_eq_true rfl) (by decide +kernel) dX1_areEnds_4 (by first | with_reducible assumption) rfl ?_
  refine v_iload_n dX1_areEnds_7 rfl 1 rfl ?_
  refine v_ialdS (v := iN ((T (S.getD i ([], 0)) f).getD x (0, 0, 0)).2.2) dX1_areEnds_8 (by first | with_reducible assumption) (vp_in_nI (by omega) (by omega)) (by rw [nI_clamp (by omega)]; exact m3) ?_
  refine v_aload_n dX1_areEnds_9 rfl 0 rfl ?_
  refine v_getf 1 (ci := 0) (C := RX1) (T := TX1) (N := 6) rfl iwX1_areEnds_X1 (Nat.le_of_ble_eq_true rfl) (by decide +kernel) dX1_areEnds_10 (by first | with_reducible assumption) rfl ?_
  refine v_getf 12 (ci := 6) (C := RX8) (T := TX8) (N := 14) rfl iwX1_areEnds_X8 (Nat.le_of_ble_eq_true rfl) (by decide +kernel) dX1_areEnds_13 (by first | with_reducible assumption) rfl ?_
  refine v_iload_n dX1_areEnds_16 rfl 1 rfl ?_
  refine v_ialdS (v := iN ((T (S.getD i ([], 0)) f).getD x (0, 0, 0)).2.1) dX1_areEnds_17 (by first | with_reducible assumption) (vp_in_nI (by omega) (by omega)) (by rw [nI_clamp (by omega)]; exact m2) ?_
  refine v_isub dX1_areEnds_18 ?_
  refine v_aload_n dX1_areEnds_19 rfl 0 rfl ?_
  refine v_getf 1 (ci := 0) (C := RX1) (T := TX1) (N := 6) rfl iwX1_areEnds_X1 (Nat.le_of_ble_eq_true rfl) (by decide +kernel) dX1_areEnds_20 (by first | with_reducible assumption) rfl ?_
  refine v_getf 13 (ci := 6) (C := RX8) (T := TX8) (N := 14) rfl iwX1_areEnds_X8 (Nat.le_of_ble_eq_true rfl) (by decide +kernel) dX1_areEnds_23 (by first | with_reducible assumption) rfl ?_
  refine v_iload_n dX1_areEnds_26 rfl 2 rfl ?_
  refine v_ialdS (v := iN ((T (S.getD j ([], 0)) g).getD y (0, 0, 0)).2.2) dX1_areEnds_27 (by first | with_reducible assumption) (vp_in_nI (by omega) (by omega)) (by rw [nI_clamp (by omega)]; exact m6) ?_
  refine v_aload_n dX1_areEnds_28 rfl 0 rfl ?_
  refine v_getf 1 (ci := 0) (C := RX1) (T := TX1) (N := 6) rfl iwX1_areEnds_X1 (Nat.le_of_ble_eq_true rfl) (by decide +kernel) dX1_areEnds_29 (by first | with_reducible assumption) rfl ?_
  refine v_getf 12 (ci := 6) (C := RX8) (T := TX8) (N := 14) rfl iwX1_areEnds_X8 (Nat.le_of_ble_eq_true rfl) (by decide +kernel) dX1_areEnds_32 (by first | with_reducible assumption) rfl ?_
  refine v_iload_n dX1_areEnds_35 rfl 2 rfl ?_
  refine v_ialdS (v := iN ((T (S.getD j ([], 0)) g).getD y (0, 0, 0)).2.1) dX1_areEnds_36 (by first | with_reducible assumption) (vp_in_nI (by omega) (by omega)) (by rw [nI_clamp (by omega)]; exact m5) ?_
  refine v_isub dX1_areEnds_37 ?_
  rw [← iN_sub, ← iN_sub]
  refine v_mmin (by decide +kernel) (by decide +kernel) (by decide +kernel) (by decide +kernel) dX1_areEnds_38 (Nat.le_of_ble_eq_true rfl) (Nat.le_of_ble_eq_true rfl) (Nat.le_of_ble_eq_true rfl) (Nat.le_of_ble_eq_true rfl) ?_
  rw [gmI_min (by omega) (by omega)]
  refine v_istore_n (L' := [(3, _), (0, _), (1, _), (2, _)]) dX1_areEnds_41 rfl (Nat.le_of_ble_eq_true rfl) rfl ?_
  refine v_aload_n dX1_areEnds_42 rfl 1 rfl ?_
  refine v_getf 4 (ci := 0) (C := RX1) (T := TX1) (N := 6) rfl iwX1_areEnds_X1 (Nat.le_of_ble_eq_true rfl) (by decide +kernel) dX1_areEnds_43 (by first | with_reducible assumption) rfl ?_
  refine v_getf 7 (ci := 5) (C := RX7) (T := TX7) (N := 8) rfl iwX1_areEnds_X7 (Nat.le_of_ble_eq_true rfl) (by decide +kernel) dX1_areEnds_46 (by first | with_reducible assumption) rfl ?_
  refine v_iconst (v := (-1)) dX1_areEnds_49 (by decide) ?_
  refine v_icmp_eq (tgt := 64) dX1_areEnds_50 (by decide) (fun c_50 => ?_) (fun c_50 => ?_)
  · refine v_iconst (v := 1) dX1_areEnds_64 (by decide) ?_
    refine v_goto (tgt := 69) dX1_areEnds_65 (by decide) ?_
    exact v_iret rfl dX1_areEnds_69 (Nat.le_of_ble_eq_true rfl) (Nat.le_of_ble_eq_true rfl) rfl (by
          have cv : (iN (min (((T (S.getD i ([], 0)) f).getD x (0, 0, 0)).2.2 - ((T (S.getD i ([], 0)) f).getD x (0, 0, 0)).2.1) (((T (S.getD j ([], 0)) g).getD y (0, 0, 0)).2.2 - ((T (S.getD j ([], 0)) g).getD y (0, 0, 0)).2.1)) < x6) ↔ min (((T (S.getD i ([], 0)) f).getD x (0, 0, 0)).2.2 - ((T (S.getD i ([], 0)) f).getD x (0, 0, 0)).2.1) (((T (S.getD j ([], 0)) g).getD y (0, 0, 0)).2.2 - ((T (S.getD j ([], 0)) g).getD y (0, 0, 0)).2.1) < x6.toInt := (by rw [Int32.lt_iff_toInt_lt, iN_to (by omega) (by omega)])
          first
            | (have c9 : x6 = -1 := c_50; rw [if_pos (Or.inl c9)]; exact ⟨rfl, rfl, rfl⟩)
            | (have c9 := c_61; have c8 : ¬ x6 = -1 := c_50
               by_cases e9 : min (((T (S.getD i ([], 0)) f).getD x (0, 0, 0)).2.2 - ((T (S.getD i ([], 0)) f).getD x (0, 0, 0)).2.1) (((T (S.getD j ([], 0)) g).getD y (0, 0, 0)).2.2 - ((T (S.getD j ([], 0)) g).getD y (0, 0, 0)).2.1) < x6.toInt
               · rw [if_pos (Or.inr e9)]
                 first
                   | exact ⟨rfl, rfl, rfl⟩
                   | exact absurd (cv.mpr e9) (Int32.not_lt.mpr c9)
               · rw [if_neg (fun r => r.elim c8 e9)]
                 first
                   | exact ⟨rfl, rfl, rfl⟩
                   | exact absurd (cv.mp (Int32.not_le.mp c9)) e9))
  · refine v_iload_n dX1_areEnds_53 rfl 0 rfl ?_
    refine v_aload_n dX1_areEnds_54 rfl 1 rfl ?_
    refine v_getf 4 (ci := 0) (C := RX1) (T := TX1) (N := 6) rfl iwX1_areEnds_X1 (Nat.le_of_ble_eq_true rfl) (by decide +kernel) dX1_areEnds_55 (by first | with_reducible assumption) rfl ?_
    refine v_getf 7 (ci := 5) (C := RX7) (T := TX7) (N := 8) rfl iwX1_areEnds_X7 (Nat.le_of_ble_eq_true rfl) (by decide +kernel) dX1_areEnds_58 (by first | with_reducible assumption) rfl ?_
    refine v_icmp_ge (tgt := 68) dX1_areEnds_61 (by decide) (fun c_61 => ?_) (fun c_61 => ?_)
    · refine v_iconst (v := 0) dX1_areEnds_68 (by decide) ?_
      exact v_iret rfl dX1_areEnds_69 (Nat.le_of_ble_eq_true rfl) (Nat.le_of_ble_eq_true rfl) rfl (by
            have cv : (iN (min (((T (S.getD i ([], 0)) f).getD x (0, 0, 0)).2.2 - ((T (S.getD i ([], 0)) f).getD x (0, 0, 0)).2.1) (((T (S.getD j ([], 0)) g).getD y (0, 0, 0)).2.2 - ((T (S.getD j ([], 0)) g).getD y (0, 0, 0)).2.1)) < x6) ↔ min (((T (S.getD i ([], 0)) f).getD x (0, 0, 0)).2.2 - ((T (S.getD i ([], 0)) f).getD x (0, 0, 0)).2.1) (((T (S.getD j ([], 0)) g).getD y (0, 0, 0)).2.2 - ((T (S.getD j ([], 0)) g).getD y (0, 0, 0)).2.1) < x6.toInt := (by rw [Int32.lt_iff_toInt_lt, iN_to (by omega) (by omega)])
            first
              | (have c9 : x6 = -1 := c_50; rw [if_pos (Or.inl c9)]; exact ⟨rfl, rfl, rfl⟩)
              | (have c9 := c_61; have c8 : ¬ x6 = -1 := c_50
                 by_cases e9 : min (((T (S.getD i ([], 0)) f).getD x (0, 0, 0)).2.2 - ((T (S.getD i ([], 0)) f).getD x (0, 0, 0)).2.1) (((T (S.getD j ([], 0)) g).getD y (0, 0, 0)).2.2 - ((T (S.getD j ([], 0)) g).getD y (0, 0, 0)).2.1) < x6.toInt
                 · rw [if_pos (Or.inr e9)]
                   first
                     | exact ⟨rfl, rfl, rfl⟩
                     | exact absurd (cv.mpr e9) (Int32.not_lt.mpr c9)
                 · rw [if_neg (fun r => r.elim c8 e9)]
                   first
                     | exact ⟨rfl, rfl, rfl⟩
                     | exact absurd (cv.mp (Int32.not_le.mp c9)) e9))
    · refine v_iconst (v := 1) dX1_areEnds_64 (by decide) ?_
      refine v_goto (tgt := 69) dX1_areEnds_65 (by decide) ?_
      exact v_iret rfl dX1_areEnds_69 (Nat.le_of_ble_eq_true rfl) (Nat.le_of_ble_eq_true rfl) rfl (by
            have cv : (iN (min (((T (S.getD i ([], 0)) f).getD x (0, 0, 0)).2.2 - ((T (S.getD i ([], 0)) f).getD x (0, 0, 0)).2.1) (((T (S.getD j ([], 0)) g).getD y (0, 0, 0)).2.2 - ((T (S.getD j ([], 0)) g).getD y (0, 0, 0)).2.1)) < x6) ↔ min (((T (S.getD i ([], 0)) f).getD x (0, 0, 0)).2.2 - ((T (S.getD i ([], 0)) f).getD x (0, 0, 0)).2.1) (((T (S.getD j ([], 0)) g).getD y (0, 0, 0)).2.2 - ((T (S.getD j ([], 0)) g).getD y (0, 0, 0)).2.1) < x6.toInt := (by rw [Int32.lt_iff_toInt_lt, iN_to (by omega) (by omega)])
            first
              | (have c9 : x6 = -1 := c_50; rw [if_pos (Or.inl c9)]; exact ⟨rfl, rfl, rfl⟩)
              | (have c9 := c_61; have c8 : ¬ x6 = -1 := c_50
                 by_cases e9 : min (((T (S.getD i ([], 0)) f).getD x (0, 0, 0)).2.2 - ((T (S.getD i ([], 0)) f).getD x (0, 0, 0)).2.1) (((T (S.getD j ([], 0)) g).getD y (0, 0, 0)).2.2 - ((T (S.getD j ([], 0)) g).getD y (0, 0, 0)).2.1) < x6.toInt
                 · rw [if_pos (Or.inr e9)]
                   first
                     | exact ⟨rfl, rfl, rfl⟩
                     | exact absurd (cv.mpr e9) (Int32.not_lt.mpr c9)
                 · rw [if_neg (fun r => r.elim c8 e9)]
                   first
                     | exact ⟨rfl, rfl, rfl⟩
                     | exact absurd (cv.mp (Int32.not_le.mp c9)) e9))

