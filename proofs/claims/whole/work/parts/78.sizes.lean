theorem oc_s_eq {p3 p4 v w : Nat → Nat} {c : Nat} : ∀ i, (∀ j, j < i → p3 j = c → v (p4 j) = w (p4 j)) → oc_s p3 p4 v c i = oc_s p3 p4 w c i
  | 0 => fun _ => rfl
  | i + 1 => by
    intro h
    have ih := oc_s_eq (p3 := p3) (p4 := p4) (v := v) (w := w) (c := c) i (fun j hj => h j (by omega))
    by_cases q : p3 i = c
    · rw [oc_s1 q, oc_s1 q, ih, h i (by omega) q]
    · rw [oc_s0 q, oc_s0 q, ih]
/-- deeper than a cell's rank nothing is added -/
theorem oc_rk {np pl : Nat} {R : Nat → Bool} {hm p3 p4 rk : Nat → Nat} (hr : ∀ i, i < pl → rk (p4 i) < rk (p3 i)) : ∀ r c, rk c < r → ∀ q, r ≤ q → oc_n np pl R hm p3 p4 q c = oc_n np pl R hm p3 p4 r c
  | 0 => fun c h => absurd h (Nat.not_lt_zero _)
  | r + 1 => by
    intro c hc q hq
    obtain ⟨q', rfl⟩ : ∃ q', q = q' + 1 := ⟨q - 1, by omega⟩
    show oc_w R hm c np + oc_s p3 p4 (oc_n np pl R hm p3 p4 q') c pl = oc_w R hm c np + oc_s p3 p4 (oc_n np pl R hm p3 p4 r) c pl
    rw [oc_s_eq pl (fun j hj e => oc_rk hr r (p4 j) (by have := hr j hj; rw [e] at this; omega) q' (by omega))]
/-- ranks below the number of cells -/
theorem oc_rank {nc pl : Nat} {p3 p4 : Nat → Nat} (rk : Nat → Nat) (hr : ∀ i, i < pl → rk (p4 i) < rk (p3 i)) (hp : ∀ i, i < pl → p4 i < nc) : ∃ rk' : Nat → Nat, (∀ i, i < pl → rk' (p4 i) < rk' (p3 i)) ∧ ∀ c, c < nc → rk' c < nc := by
  refine ⟨fun c => cn (fun d => decide (rk d < rk c)) nc, fun i hi => ?_, fun c hc => ?_⟩
  · refine cn_lt nc (fun d _ q => ?_) ⟨p4 i, hp i hi, decide_eq_true (hr i hi), fun q => absurd (of_decide_eq_true q) (Nat.lt_irrefl _)⟩
    exact decide_eq_true (Nat.lt_trans (of_decide_eq_true q) (hr i hi))
  · have q1 : cn (fun d => decide (rk d < rk c)) nc < cn (fun _ => true) nc := cn_lt nc (fun _ _ _ => rfl) ⟨c, hc, rfl, fun q => absurd (of_decide_eq_true q) (Nat.lt_irrefl _)⟩
    have q2 := cn_le (fun _ => true) nc
    show cn (fun d => decide (rk d < rk c)) nc < nc
    omega
/-- the model's sum over places -/
def ms_s (p3 p4 : Nat → Nat) (f : Nat → Int64) (c : Nat) (a : Int64) : Nat → Int64
  | 0 => a
  | i + 1 => ms_s p3 p4 f c a i + (if p3 i = c then f (p4 i) else 0)
theorem ms_s_ok {p3 p4 v : Nat → Nat} {f : Nat → Int64} {c a : Nat} : ∀ i, (∀ j, j < i → p3 j = c → f (p4 j) = lN (v (p4 j))) → ms_s p3 p4 f c (lN a) i = lN (a + oc_s p3 p4 v c i)
  | 0 => fun _ => rfl
  | i + 1 => by
    intro h
    have ih := ms_s_ok (p3 := p3) (p4 := p4) (v := v) (f := f) (c := c) (a := a) i (fun j hj => h j (by omega))
    show ms_s p3 p4 f c (lN a) i + (if p3 i = c then f (p4 i) else 0) = _
    by_cases q : p3 i = c
    · rw [if_pos q, ih, h i (by omega) q, lN_add, oc_s1 q, Nat.add_assoc]
    · rw [if_neg q, ih, oc_s0 q]; exact Int64.add_zero _
theorem oc_s_bd {p3 p4 v : Nat → Nat} {c K : Nat} (hv : ∀ d, v d ≤ K) : ∀ i, oc_s p3 p4 v c i ≤ i * K
  | 0 => Nat.zero_le _
  | i + 1 => by
    have ih := oc_s_bd (p3 := p3) (p4 := p4) (v := v) (c := c) (K := K) hv i
    have := hv (p4 i)
    rw [Nat.add_mul, Nat.one_mul]
    by_cases q : p3 i = c
    · rw [oc_s1 q]; omega
    · rw [oc_s0 q]; omega
theorem oc_val {np pl : Nat} {R : Nat → Bool} {hm p3 p4 rk : Nat → Nat} (hr : ∀ i, i < pl → rk (p4 i) < rk (p3 i)) {c : Nat} (hc : rk c < 16) : min 100000 (oc_w R hm c np + oc_s p3 p4 (fun d => min 100000 (oc_n np pl R hm p3 p4 16 d)) c pl) = min 100000 (oc_n np pl R hm p3 p4 16 c) := by
  rw [← oc_rk (np := np) (R := R) (hm := hm) hr 16 c hc 17 (by omega)]
  show _ = min 100000 (oc_w R hm c np + oc_s p3 p4 (oc_n np pl R hm p3 p4 16) c pl)
  exact oc_cl 100000 pl (fun j _ => by show min 100000 (min 100000 _) = _; omega)
theorem iwX13_sizeOf_X13 : ∀ w ∈ wsX130, w ∈ wsX13_sizeOf := by decide +kernel
set_option maxRecDepth 20000 in
theorem ggX13_sizeOf_X13_isRight : GoodIn wsX13_sizeOf wsX13_isRight := goodIn_r _ [13, 14, 15, 16, 17, 12, 18, 19, 20, 21, 22, 23, 24, 25, 26, 27, 28, 29, 30, 31, 32, 33, 34, 35, 36, 37, 38, 39, 40, 41, 42, 43, 44, 45, 46, 47, 48, 49, 50, 51, 52, 53, 54, 55, 56, 57, 58, 59, 60, 61, 62, 63, 64, 65, 66, 67, 68, 69, 70, 71, 72, 73, 74, 75, 76, 77, 78, 79, 80, 81, 82, 83, 84, 85, 86, 87, 88, 89, 90, 91, 92, 93, 94, 95, 96, 97, 98, 99, 100, 101, 102, 103, 104, 105] (by decide +kernel) (by decide +kernel)
set_option maxRecDepth 20000 in
theorem gX13_sizeOf_X13_isRight : GoodIn wsX13_sizeOf (wsV RX13 200 RX13 yX13_isRight wsX13_isRight) := goodIn_app (goodIn_of _ (by decide +kernel)) ggX13_sizeOf_X13_isRight
theorem dX13_sizeOf_0 : decode cX13_sizeOf 0 = .ok (.iconst 0, 1) := by decide +kernel
theorem dX13_sizeOf_1 : decode cX13_sizeOf 1 = .ok (.istore_n 2, 1) := by decide +kernel
theorem dX13_sizeOf_2 : decode cX13_sizeOf 2 = .ok (.iload_n 2, 1) := by decide +kernel
theorem dX13_sizeOf_3 : decode cX13_sizeOf 3 = .ok (.bipush 16, 2) := by decide +kernel
theorem dX13_sizeOf_5 : decode cX13_sizeOf 5 = .ok (.if_icmp .ge 16, 3) := by decide +kernel
theorem dX13_sizeOf_8 : decode cX13_sizeOf 8 = .ok (.aload_n 0, 1) := by decide +kernel
theorem dX13_sizeOf_9 : decode cX13_sizeOf 9 = .ok (.getfield 98, 3) := by decide +kernel
theorem dX13_sizeOf_12 : decode cX13_sizeOf 12 = .ok (.iload_n 2, 1) := by decide +kernel
theorem dX13_sizeOf_13 : decode cX13_sizeOf 13 = .ok (.lconst 0, 1) := by decide +kernel
theorem dX13_sizeOf_14 : decode cX13_sizeOf 14 = .ok (.lastore, 1) := by decide +kernel
theorem dX13_sizeOf_15 : decode cX13_sizeOf 15 = .ok (.iinc 2 1, 3) := by decide +kernel
theorem dX13_sizeOf_18 : decode cX13_sizeOf 18 = .ok (.goto (-16), 3) := by decide +kernel
theorem dX13_sizeOf_21 : decode cX13_sizeOf 21 = .ok (.iconst 0, 1) := by decide +kernel
theorem dX13_sizeOf_22 : decode cX13_sizeOf 22 = .ok (.istore_n 2, 1) := by decide +kernel
theorem dX13_sizeOf_23 : decode cX13_sizeOf 23 = .ok (.iload_n 2, 1) := by decide +kernel
theorem dX13_sizeOf_24 : decode cX13_sizeOf 24 = .ok (.bipush 16, 2) := by decide +kernel
theorem dX13_sizeOf_26 : decode cX13_sizeOf 26 = .ok (.if_icmp .ge 149, 3) := by decide +kernel
theorem dX13_sizeOf_29 : decode cX13_sizeOf 29 = .ok (.iconst 0, 1) := by decide +kernel
theorem dX13_sizeOf_30 : decode cX13_sizeOf 30 = .ok (.istore_n 3, 1) := by decide +kernel
theorem dX13_sizeOf_31 : decode cX13_sizeOf 31 = .ok (.iload_n 3, 1) := by decide +kernel
theorem dX13_sizeOf_32 : decode cX13_sizeOf 32 = .ok (.aload_n 0, 1) := by decide +kernel
theorem dX13_sizeOf_33 : decode cX13_sizeOf 33 = .ok (.getfield 148, 3) := by decide +kernel
theorem dX13_sizeOf_36 : decode cX13_sizeOf 36 = .ok (.if_icmp .ge 133, 3) := by decide +kernel
theorem dX13_sizeOf_39 : decode cX13_sizeOf 39 = .ok (.lconst 0, 1) := by decide +kernel
theorem dX13_sizeOf_40 : decode cX13_sizeOf 40 = .ok (.lstore 4, 2) := by decide +kernel
theorem dX13_sizeOf_42 : decode cX13_sizeOf 42 = .ok (.iconst 0, 1) := by decide +kernel
theorem dX13_sizeOf_43 : decode cX13_sizeOf 43 = .ok (.istore 6, 2) := by decide +kernel
theorem dX13_sizeOf_45 : decode cX13_sizeOf 45 = .ok (.iload 6, 2) := by decide +kernel
theorem dX13_sizeOf_47 : decode cX13_sizeOf 47 = .ok (.aload_n 0, 1) := by decide +kernel
theorem dX13_sizeOf_48 : decode cX13_sizeOf 48 = .ok (.getfield 155, 3) := by decide +kernel
theorem dX13_sizeOf_51 : decode cX13_sizeOf 51 = .ok (.if_icmp .ge 39, 3) := by decide +kernel
theorem dX13_sizeOf_54 : decode cX13_sizeOf 54 = .ok (.lload 4, 2) := by decide +kernel
theorem dX13_sizeOf_56 : decode cX13_sizeOf 56 = .ok (.aload_n 0, 1) := by decide +kernel
theorem dX13_sizeOf_57 : decode cX13_sizeOf 57 = .ok (.getfield 7, 3) := by decide +kernel
theorem dX13_sizeOf_60 : decode cX13_sizeOf 60 = .ok (.iload 6, 2) := by decide +kernel
theorem dX13_sizeOf_62 : decode cX13_sizeOf 62 = .ok (.iaload, 1) := by decide +kernel
theorem dX13_sizeOf_63 : decode cX13_sizeOf 63 = .ok (.iload_n 3, 1) := by decide +kernel
theorem dX13_sizeOf_64 : decode cX13_sizeOf 64 = .ok (.if_icmp .ne 16, 3) := by decide +kernel
theorem dX13_sizeOf_67 : decode cX13_sizeOf 67 = .ok (.aload_n 0, 1) := by decide +kernel
theorem dX13_sizeOf_68 : decode cX13_sizeOf 68 = .ok (.iload 6, 2) := by decide +kernel
theorem dX13_sizeOf_70 : decode cX13_sizeOf 70 = .ok (.invokevirtual 200, 3) := by decide +kernel
theorem dX13_sizeOf_73 : decode cX13_sizeOf 73 = .ok (.ifCond .eq 7, 3) := by decide +kernel
theorem dX13_sizeOf_76 : decode cX13_sizeOf 76 = .ok (.lconst 1, 1) := by decide +kernel
theorem dX13_sizeOf_77 : decode cX13_sizeOf 77 = .ok (.goto 4, 3) := by decide +kernel
theorem dX13_sizeOf_80 : decode cX13_sizeOf 80 = .ok (.lconst 0, 1) := by decide +kernel
theorem dX13_sizeOf_81 : decode cX13_sizeOf 81 = .ok (.ladd, 1) := by decide +kernel
theorem dX13_sizeOf_82 : decode cX13_sizeOf 82 = .ok (.lstore 4, 2) := by decide +kernel
theorem dX13_sizeOf_84 : decode cX13_sizeOf 84 = .ok (.iinc 6 1, 3) := by decide +kernel
theorem dX13_sizeOf_87 : decode cX13_sizeOf 87 = .ok (.goto (-42), 3) := by decide +kernel
theorem dX13_sizeOf_90 : decode cX13_sizeOf 90 = .ok (.iconst 0, 1) := by decide +kernel
theorem dX13_sizeOf_91 : decode cX13_sizeOf 91 = .ok (.istore 6, 2) := by decide +kernel
theorem dX13_sizeOf_93 : decode cX13_sizeOf 93 = .ok (.iload 6, 2) := by decide +kernel
theorem dX13_sizeOf_95 : decode cX13_sizeOf 95 = .ok (.aload_n 0, 1) := by decide +kernel
theorem dX13_sizeOf_96 : decode cX13_sizeOf 96 = .ok (.getfield 169, 3) := by decide +kernel
theorem dX13_sizeOf_99 : decode cX13_sizeOf 99 = .ok (.if_icmp .ge 41, 3) := by decide +kernel
theorem dX13_sizeOf_102 : decode cX13_sizeOf 102 = .ok (.lload 4, 2) := by decide +kernel
theorem dX13_sizeOf_104 : decode cX13_sizeOf 104 = .ok (.aload_n 0, 1) := by decide +kernel
theorem dX13_sizeOf_105 : decode cX13_sizeOf 105 = .ok (.getfield 29, 3) := by decide +kernel
theorem dX13_sizeOf_108 : decode cX13_sizeOf 108 = .ok (.iload 6, 2) := by decide +kernel
theorem dX13_sizeOf_110 : decode cX13_sizeOf 110 = .ok (.iaload, 1) := by decide +kernel
theorem dX13_sizeOf_111 : decode cX13_sizeOf 111 = .ok (.iload_n 3, 1) := by decide +kernel
theorem dX13_sizeOf_112 : decode cX13_sizeOf 112 = .ok (.if_icmp .ne 18, 3) := by decide +kernel
theorem dX13_sizeOf_115 : decode cX13_sizeOf 115 = .ok (.aload_n 0, 1) := by decide +kernel
theorem dX13_sizeOf_116 : decode cX13_sizeOf 116 = .ok (.getfield 98, 3) := by decide +kernel
theorem dX13_sizeOf_119 : decode cX13_sizeOf 119 = .ok (.aload_n 0, 1) := by decide +kernel
theorem dX13_sizeOf_120 : decode cX13_sizeOf 120 = .ok (.getfield 32, 3) := by decide +kernel
theorem dX13_sizeOf_123 : decode cX13_sizeOf 123 = .ok (.iload 6, 2) := by decide +kernel
theorem dX13_sizeOf_125 : decode cX13_sizeOf 125 = .ok (.iaload, 1) := by decide +kernel
theorem dX13_sizeOf_126 : decode cX13_sizeOf 126 = .ok (.laload, 1) := by decide +kernel
theorem dX13_sizeOf_127 : decode cX13_sizeOf 127 = .ok (.goto 4, 3) := by decide +kernel
theorem dX13_sizeOf_130 : decode cX13_sizeOf 130 = .ok (.lconst 0, 1) := by decide +kernel
theorem dX13_sizeOf_131 : decode cX13_sizeOf 131 = .ok (.ladd, 1) := by decide +kernel
theorem dX13_sizeOf_132 : decode cX13_sizeOf 132 = .ok (.lstore 4, 2) := by decide +kernel
theorem dX13_sizeOf_134 : decode cX13_sizeOf 134 = .ok (.iinc 6 1, 3) := by decide +kernel
theorem dX13_sizeOf_137 : decode cX13_sizeOf 137 = .ok (.goto (-44), 3) := by decide +kernel
theorem dX13_sizeOf_140 : decode cX13_sizeOf 140 = .ok (.aload_n 0, 1) := by decide +kernel
theorem dX13_sizeOf_141 : decode cX13_sizeOf 141 = .ok (.getfield 98, 3) := by decide +kernel
theorem dX13_sizeOf_144 : decode cX13_sizeOf 144 = .ok (.iload_n 3, 1) := by decide +kernel
theorem dX13_sizeOf_145 : decode cX13_sizeOf 145 = .ok (.lload 4, 2) := by decide +kernel
theorem dX13_sizeOf_147 : decode cX13_sizeOf 147 = .ok (.ldc2_w 203, 3) := by decide +kernel
theorem dX13_sizeOf_150 : decode cX13_sizeOf 150 = .ok (.lcmp, 1) := by decide +kernel
theorem dX13_sizeOf_151 : decode cX13_sizeOf 151 = .ok (.ifCond .le 9, 3) := by decide +kernel
theorem dX13_sizeOf_154 : decode cX13_sizeOf 154 = .ok (.ldc2_w 203, 3) := by decide +kernel
theorem dX13_sizeOf_157 : decode cX13_sizeOf 157 = .ok (.goto 5, 3) := by decide +kernel
theorem dX13_sizeOf_160 : decode cX13_sizeOf 160 = .ok (.lload 4, 2) := by decide +kernel
theorem dX13_sizeOf_162 : decode cX13_sizeOf 162 = .ok (.lastore, 1) := by decide +kernel
theorem dX13_sizeOf_163 : decode cX13_sizeOf 163 = .ok (.iinc 3 1, 3) := by decide +kernel
theorem dX13_sizeOf_166 : decode cX13_sizeOf 166 = .ok (.goto (-135), 3) := by decide +kernel
theorem dX13_sizeOf_169 : decode cX13_sizeOf 169 = .ok (.iinc 2 1, 3) := by decide +kernel
theorem dX13_sizeOf_172 : decode cX13_sizeOf 172 = .ok (.goto (-149), 3) := by decide +kernel
theorem dX13_sizeOf_175 : decode cX13_sizeOf 175 = .ok (.aload_n 0, 1) := by decide +kernel
theorem dX13_sizeOf_176 : decode cX13_sizeOf 176 = .ok (.getfield 98, 3) := by decide +kernel
theorem dX13_sizeOf_179 : decode cX13_sizeOf 179 = .ok (.iload_n 1, 1) := by decide +kernel
theorem dX13_sizeOf_180 : decode cX13_sizeOf 180 = .ok (.laload, 1) := by decide +kernel
theorem dX13_sizeOf_181 : decode cX13_sizeOf 181 = .ok (.lreturn, 1) := by decide +kernel

abbrev mX13_sizeOf : sv_M := (cX13_sizeOf, 7, yX13_sizeOf, wsX13_sizeOf, (some .long), { frames := 3, cells := 0, slots := 0, locals := 74 }, [])
set_option maxHeartbeats 4000000 in
set_option maxRecDepth 100000 in
theorem l_size1 (G : sv_G) (P : sv_P) (h : sv_h) (z b nc np pl : Nat) (fs : List Value) (R : Nat → Bool) (hm p3 p4 : Nat → Nat) (sz : Nat → Nat) (u : Nat → Nat → Nat → Int32) (ow gs fh fg : Nat → Int32) (gx gy : Nat → Int64) (hlen : fs.length = 71) (hmo : h (b + 220) = some (.inr (11, fs))) (f_cells : fs[2]? = some (.int (nI nc))) (f_polygons : fs[3]? = some (.int (nI np))) (f_places : fs[10]? = some (.int (nI pl))) (f_owner : fs[4]? = some (.ref (b + 221))) (f_size : fs[7]? = some (.ref (b + 224))) (f_px : fs[8]? = some (.ref (b + 225))) (f_py : fs[9]? = some (.ref (b + 226))) (f_placeIn : fs[11]? = some (.ref (b + 227))) (f_placeOf : fs[12]? = some (.ref (b + 228))) (f_sizes : fs[42]? = some (.ref (b + 248))) (r1 : ab_I G h (b + 221) 64 ow) (hgs : ab_I G h (b + 224) 64 gs) (hgx : ab_J G h (b + 225) 1024 gx) (hgy : ab_J G h (b + 226) 1024 gy) (hh1 : ab_I G h (b + 227) 32 fh) (hh2 : ab_I G h (b + 228) 32 fg) (hnc : nc ≤ 16) (hnp : np ≤ 64) (hpl : pl ≤ 32) (hpp : ∀ i, i < pl → fh i = nI (p3 i) ∧ fg i = nI (p4 i) ∧ p3 i < nc ∧ p4 i < nc) (hpo : ∀ p, p < np → ow p = nI (hm p) ∧ hm p < nc ∧ gs p = nI (sz p) ∧ sz p ≤ 16 ∧ (∀ i, i < sz p → gx (16 * p + i) = (u 0 p i).toInt64) ∧ (∀ i, i < sz p → gy (16 * p + i) = (u 1 p i).toInt64) ∧ (R p = true ↔ gm_mr (sz p) (u 0 p) (u 1 p))) (hi : sv_h) (hfr : ∀ w, w ≠ b + 248 → hi w = h w) (c : Nat) (hc : c < nc) (w1 w2 : Int32) (hk : ∀ w6 : Int32, V G mX13_sizeOf P 90 [(6, .int (w6)), (4, .long (lN (oc_w R hm c np))), (3, .int (nI c)), (2, .int w2), (0, .ref (b + 220)), (1, .int w1)] [] hi z 0 0) : ∀ (k p : Nat), p + k = np → V G mX13_sizeOf P 45 [(6, .int (nI p)), (4, .long (lN (oc_w R hm c p))), (3, .int (nI c)), (2, .int w2), (0, .ref (b + 220)), (1, .int w1)] [] hi z 0 0 := by
  intro k
  induction k with
  | zero =>
    intro p hpc
    refine v_iload dX13_sizeOf_45 0 rfl ?_
    refine v_aload_n dX13_sizeOf_47 rfl 4 rfl ?_
    refine v_getf 3 (ci := 11) (C := RX13) (T := TX13) (N := 71) rfl iwX13_sizeOf_X13 (Nat.le_of_ble_eq_true rfl) (by decide +kernel) dX13_sizeOf_48 (by first | with_reducible assumption | exact (hfr _ (by omega)).trans hmo | exact (hfr _ (by omega)).trans r1 | exact (hfr _ (by omega)).trans hh1 | exact (hfr _ (by omega)).trans hh2) (by repeat (first | with_reducible assumption | (with_reducible refine (sv_ls (by first | omega | (simp only [List.length_set]; omega))).trans ?_; exact rfl) | with_reducible refine (List.getElem?_set_ne (by decide)).trans ?_)) ?_
    refine v_icmp_ge (tgt := 90) dX13_sizeOf_51 (by decide) (fun c_51 => ?_) (fun c_51 => ?_)
    · (obtain rfl : p = np := by omega)
      exact hk _
    · exact absurd (show nI np ≤ nI p from nI_le (by omega) (by omega)) c_51
  | succ k ih =>
    intro p hpc
    have qo := hpo p (by omega)
    refine v_iload dX13_sizeOf_45 0 rfl ?_
    refine v_aload_n dX13_sizeOf_47 rfl 4 rfl ?_
    refine v_getf 3 (ci := 11) (C := RX13) (T := TX13) (N := 71) rfl iwX13_sizeOf_X13 (Nat.le_of_ble_eq_true rfl) (by decide +kernel) dX13_sizeOf_48 (by first | with_reducible assumption | exact (hfr _ (by omega)).trans hmo | exact (hfr _ (by omega)).trans r1 | exact (hfr _ (by omega)).trans hh1 | exact (hfr _ (by omega)).trans hh2) (by repeat (first | with_reducible assumption | (with_reducible refine (sv_ls (by first | omega | (simp only [List.length_set]; omega))).trans ?_; exact rfl) | with_reducible refine (List.getElem?_set_ne (by decide)).trans ?_)) ?_
    refine v_icmp_ge (tgt := 90) dX13_sizeOf_51 (by decide) (fun c_51 => ?_) (fun c_51 => ?_)
    · exact absurd c_51 (nI_ge (by omega) (by omega))
    · refine v_lload dX13_sizeOf_54 1 rfl ?_
      refine v_aload_n dX13_sizeOf_56 rfl 4 rfl ?_
      refine v_getf 4 (ci := 11) (C := RX13) (T := TX13) (N := 71) rfl iwX13_sizeOf_X13 (Nat.le_of_ble_eq_true rfl) (by decide +kernel) dX13_sizeOf_57 (by first | with_reducible assumption | exact (hfr _ (by omega)).trans hmo | exact (hfr _ (by omega)).trans r1 | exact (hfr _ (by omega)).trans hh1 | exact (hfr _ (by omega)).trans hh2) (by repeat (first | with_reducible assumption | (with_reducible refine (sv_ls (by first | omega | (simp only [List.length_set]; omega))).trans ?_; exact rfl) | with_reducible refine (List.getElem?_set_ne (by decide)).trans ?_)) ?_
      refine v_iload dX13_sizeOf_60 0 rfl ?_
      refine v_ialdS (v := nI (hm p)) dX13_sizeOf_62 (by first | with_reducible assumption | exact (hfr _ (by omega)).trans hmo | exact (hfr _ (by omega)).trans r1 | exact (hfr _ (by omega)).trans hh1 | exact (hfr _ (by omega)).trans hh2) (vp_in_nI (by omega) (by omega)) (by rw [nI_clamp (by omega)]; exact qo.1) ?_
      refine v_iload_n dX13_sizeOf_63 rfl 2 rfl ?_
      refine v_icmp_ne (tgt := 80) dX13_sizeOf_64 (by decide) (fun c_64 => ?_) (fun c_64 => ?_)
      · refine v_lconst (v := 0) dX13_sizeOf_80 (by decide) ?_
        refine v_ladd dX13_sizeOf_81 ?_
        refine v_lstore (L' := [(4, _), (6, _), (3, _), (2, _), (0, _), (1, _)]) dX13_sizeOf_82 (Nat.le_of_ble_eq_true rfl) rfl ?_
        refine v_iinc (j := 1) (L' := [(6, _), (4, _), (3, _), (2, _), (0, _), (1, _)]) (v := nI (p + 1)) dX13_sizeOf_84 rfl (nI_1 _) (Nat.le_of_ble_eq_true rfl) rfl ?_
        refine v_goto (tgt := 45) dX13_sizeOf_87 (by decide) ?_
        refine v_sub (L' := [(6, _), (4, _), (3, _), (2, _), (0, _), (1, _)]) [0, 1, 2, 3, 4, 5] rfl ?_
        have e9 := ih (p + 1) (by omega)
        first
        | (have c9 : ¬ nI (hm p) = nI c := c_64
           rw [oc_w0 (fun q => c9 (by rw [q.2])), ← show lN (oc_w R hm c p) + 0 = lN (oc_w R hm c p) from Int64.add_zero _] at e9
           exact e9)
        | (have c9 : w9 = 0 := c_73
           rw [oc_w0 (fun q => absurd (qo.2.2.2.2.2.2.mp q.1) ((hw9.resolve_left (fun r => by rw [r.1] at c9; exact absurd c9 (by decide))).2)), ← show lN (oc_w R hm c p) + 0 = lN (oc_w R hm c p) from Int64.add_zero _] at e9
           exact e9)
        | (have c9 : ¬ w9 = 0 := c_73
           have c8 : nI (hm p) = nI c := c_64
           rw [oc_w1 ⟨qo.2.2.2.2.2.2.mpr ((hw9.resolve_right (fun r => c9 r.1)).2), (nI_eq (by omega) (by omega)).mp c8⟩, ← lN_1] at e9
           exact e9)
      · refine v_aload_n dX13_sizeOf_67 rfl 4 rfl ?_
        refine v_iload dX13_sizeOf_68 0 rfl ?_
        refine v_callVq (M' := mX13_isRight) (n := 1) (As := [_]) (ci := 11) (r := (RX13, TX13, 71)) gX13_sizeOf_X13_isRight rfl (by decide +kernel) ⟨(Nat.le_of_ble_eq_true rfl), (Nat.le_of_ble_eq_true rfl)⟩ rfl rfl dX13_sizeOf_70 rfl ⟨(Nat.le_of_ble_eq_true rfl), (Nat.le_of_ble_eq_true rfl)⟩ (Nat.le_of_ble_eq_true rfl) (by first | with_reducible assumption | exact (hfr _ (by omega)).trans hmo | exact (hfr _ (by omega)).trans r1 | exact (hfr _ (by omega)).trans hh1 | exact (hfr _ (by omega)).trans hh2) rfl (m_isRight G hi z b p (sz p) fs gs gx gy (u 0 p) (u 1 p) hlen ((hfr _ (by omega)).trans hmo) f_size f_px f_py ((hfr _ (by omega)).trans hgs) ((hfr _ (by omega)).trans hgx) ((hfr _ (by omega)).trans hgy) (by omega) qo.2.2.1 qo.2.2.2.1 qo.2.2.2.2.1 qo.2.2.2.2.2.1) (fun v h1 z1 hq => ?_)
        obtain ⟨⟨w9, rfl, hw9⟩, rfl, rfl⟩ := hq
        refine v_if_eq (tgt := 80) dX13_sizeOf_73 (by decide) (fun c_73 => ?_) (fun c_73 => ?_)
        · refine v_lconst (v := 0) dX13_sizeOf_80 (by decide) ?_
          refine v_ladd dX13_sizeOf_81 ?_
          refine v_lstore (L' := [(4, _), (6, _), (3, _), (2, _), (0, _), (1, _)]) dX13_sizeOf_82 (Nat.le_of_ble_eq_true rfl) rfl ?_
          refine v_iinc (j := 1) (L' := [(6, _), (4, _), (3, _), (2, _), (0, _), (1, _)]) (v := nI (p + 1)) dX13_sizeOf_84 rfl (nI_1 _) (Nat.le_of_ble_eq_true rfl) rfl ?_
          refine v_goto (tgt := 45) dX13_sizeOf_87 (by decide) ?_
          refine v_sub (L' := [(6, _), (4, _), (3, _), (2, _), (0, _), (1, _)]) [0, 1, 2, 3, 4, 5] rfl ?_
          have e9 := ih (p + 1) (by omega)
          first
          | (have c9 : ¬ nI (hm p) = nI c := c_64
             rw [oc_w0 (fun q => c9 (by rw [q.2])), ← show lN (oc_w R hm c p) + 0 = lN (oc_w R hm c p) from Int64.add_zero _] at e9
             exact e9)
          | (have c9 : w9 = 0 := c_73
             rw [oc_w0 (fun q => absurd (qo.2.2.2.2.2.2.mp q.1) ((hw9.resolve_left (fun r => by rw [r.1] at c9; exact absurd c9 (by decide))).2)), ← show lN (oc_w R hm c p) + 0 = lN (oc_w R hm c p) from Int64.add_zero _] at e9
             exact e9)
          | (have c9 : ¬ w9 = 0 := c_73
             have c8 : nI (hm p) = nI c := c_64
             rw [oc_w1 ⟨qo.2.2.2.2.2.2.mpr ((hw9.resolve_right (fun r => c9 r.1)).2), (nI_eq (by omega) (by omega)).mp c8⟩, ← lN_1] at e9
             exact e9)
        · refine v_lconst (v := 1) dX13_sizeOf_76 (by decide) ?_
          refine v_goto (tgt := 81) dX13_sizeOf_77 (by decide) ?_
          refine v_ladd dX13_sizeOf_81 ?_
          refine v_lstore (L' := [(4, _), (6, _), (3, _), (2, _), (0, _), (1, _)]) dX13_sizeOf_82 (Nat.le_of_ble_eq_true rfl) rfl ?_
          refine v_iinc (j := 1) (L' := [(6, _), (4, _), (3, _), (2, _), (0, _), (1, _)]) (v := nI (p + 1)) dX13_sizeOf_84 rfl (nI_1 _) (Nat.le_of_ble_eq_true rfl) rfl ?_
          refine v_goto (tgt := 45) dX13_sizeOf_87 (by decide) ?_
          refine v_sub (L' := [(6, _), (4, _), (3, _), (2, _), (0, _), (1, _)]) [0, 1, 2, 3, 4, 5] rfl ?_
          have e9 := ih (p + 1) (by omega)
          first
          | (have c9 : ¬ nI (hm p) = nI c := c_64
             rw [oc_w0 (fun q => c9 (by rw [q.2])), ← show lN (oc_w R hm c p) + 0 = lN (oc_w R hm c p) from Int64.add_zero _] at e9
             exact e9)
          | (have c9 : w9 = 0 := c_73
             rw [oc_w0 (fun q => absurd (qo.2.2.2.2.2.2.mp q.1) ((hw9.resolve_left (fun r => by rw [r.1] at c9; exact absurd c9 (by decide))).2)), ← show lN (oc_w R hm c p) + 0 = lN (oc_w R hm c p) from Int64.add_zero _] at e9
             exact e9)
          | (have c9 : ¬ w9 = 0 := c_73
             have c8 : nI (hm p) = nI c := c_64
             rw [oc_w1 ⟨qo.2.2.2.2.2.2.mpr ((hw9.resolve_right (fun r => c9 r.1)).2), (nI_eq (by omega) (by omega)).mp c8⟩, ← lN_1] at e9
             exact e9)

set_option maxHeartbeats 4000000 in
set_option maxRecDepth 100000 in
theorem l_size2 (G : sv_G) (P : sv_P) (h : sv_h) (z b nc np pl : Nat) (fs : List Value) (R : Nat → Bool) (hm p3 p4 : Nat → Nat) (sz : Nat → Nat) (u : Nat → Nat → Nat → Int32) (ow gs fh fg : Nat → Int32) (gx gy : Nat → Int64) (hlen : fs.length = 71) (hmo : h (b + 220) = some (.inr (11, fs))) (f_cells : fs[2]? = some (.int (nI nc))) (f_polygons : fs[3]? = some (.int (nI np))) (f_places : fs[10]? = some (.int (nI pl))) (f_owner : fs[4]? = some (.ref (b + 221))) (f_size : fs[7]? = some (.ref (b + 224))) (f_px : fs[8]? = some (.ref (b + 225))) (f_py : fs[9]? = some (.ref (b + 226))) (f_placeIn : fs[11]? = some (.ref (b + 227))) (f_placeOf : fs[12]? = some (.ref (b + 228))) (f_sizes : fs[42]? = some (.ref (b + 248))) (r1 : ab_I G h (b + 221) 64 ow) (hgs : ab_I G h (b + 224) 64 gs) (hgx : ab_J G h (b + 225) 1024 gx) (hgy : ab_J G h (b + 226) 1024 gy) (hh1 : ab_I G h (b + 227) 32 fh) (hh2 : ab_I G h (b + 228) 32 fg) (hnc : nc ≤ 16) (hnp : np ≤ 64) (hpl : pl ≤ 32) (hpp : ∀ i, i < pl → fh i = nI (p3 i) ∧ fg i = nI (p4 i) ∧ p3 i < nc ∧ p4 i < nc) (hpo : ∀ p, p < np → ow p = nI (hm p) ∧ hm p < nc ∧ gs p = nI (sz p) ∧ sz p ≤ 16 ∧ (∀ i, i < sz p → gx (16 * p + i) = (u 0 p i).toInt64) ∧ (∀ i, i < sz p → gy (16 * p + i) = (u 1 p i).toInt64) ∧ (R p = true ↔ gm_mr (sz p) (u 0 p) (u 1 p))) (hi : sv_h) (hfr : ∀ w, w ≠ b + 248 → hi w = h w) (f : Nat → Int64) (hsf : ab_J G hi (b + 248) 16 f) (c : Nat) (hc : c < nc) (a : Int64) (w1 w2 : Int32) (hk : ∀ w6 : Int32, V G mX13_sizeOf P 140 [(6, .int (w6)), (4, .long (ms_s p3 p4 f c a pl)), (3, .int (nI c)), (2, .int w2), (0, .ref (b + 220)), (1, .int w1)] [] hi z 0 0) : ∀ (k i : Nat), i + k = pl → V G mX13_sizeOf P 93 [(6, .int (nI i)), (4, .long (ms_s p3 p4 f c a i)), (3, .int (nI c)), (2, .int w2), (0, .ref (b + 220)), (1, .int w1)] [] hi z 0 0 := by
  intro k
  induction k with
  | zero =>
    intro i hic
    refine v_iload dX13_sizeOf_93 0 rfl ?_
    refine v_aload_n dX13_sizeOf_95 rfl 4 rfl ?_
    refine v_getf 10 (ci := 11) (C := RX13) (T := TX13) (N := 71) rfl iwX13_sizeOf_X13 (Nat.le_of_ble_eq_true rfl) (by decide +kernel) dX13_sizeOf_96 (by first | with_reducible assumption | exact (hfr _ (by omega)).trans hmo | exact (hfr _ (by omega)).trans r1 | exact (hfr _ (by omega)).trans hh1 | exact (hfr _ (by omega)).trans hh2) (by repeat (first | with_reducible assumption | (with_reducible refine (sv_ls (by first | omega | (simp only [List.length_set]; omega))).trans ?_; exact rfl) | with_reducible refine (List.getElem?_set_ne (by decide)).trans ?_)) ?_
    refine v_icmp_ge (tgt := 140) dX13_sizeOf_99 (by decide) (fun c_99 => ?_) (fun c_99 => ?_)
    · (obtain rfl : i = pl := by omega)
      exact hk _
    · exact absurd (show nI pl ≤ nI i from nI_le (by omega) (by omega)) c_99
  | succ k ih =>
    intro i hic
    refine v_iload dX13_sizeOf_93 0 rfl ?_
    refine v_aload_n dX13_sizeOf_95 rfl 4 rfl ?_
    refine v_getf 10 (ci := 11) (C := RX13) (T := TX13) (N := 71) rfl iwX13_sizeOf_X13 (Nat.le_of_ble_eq_true rfl) (by decide +kernel) dX13_sizeOf_96 (by first | with_reducible assumption | exact (hfr _ (by omega)).trans hmo | exact (hfr _ (by omega)).trans r1 | exact (hfr _ (by omega)).trans hh1 | exact (hfr _ (by omega)).trans hh2) (by repeat (first | with_reducible assumption | (with_reducible refine (sv_ls (by first | omega | (simp only [List.length_set]; omega))).trans ?_; exact rfl) | with_reducible refine (List.getElem?_set_ne (by decide)).trans ?_)) ?_
    refine v_icmp_ge (tgt := 140) dX13_sizeOf_99 (by decide) (fun c_99 => ?_) (fun c_99 => ?_)
    · exact absurd c_99 (nI_ge (by omega) (by omega))
    · refine v_lload dX13_sizeOf_102 1 rfl ?_
      refine v_aload_n dX13_sizeOf_104 rfl 4 rfl ?_
      refine v_getf 11 (ci := 11) (C := RX13) (T := TX13) (N := 71) rfl iwX13_sizeOf_X13 (Nat.le_of_ble_eq_true rfl) (by decide +kernel) dX13_sizeOf_105 (by first | with_reducible assumption | exact (hfr _ (by omega)).trans hmo | exact (hfr _ (by omega)).trans r1 | exact (hfr _ (by omega)).trans hh1 | exact (hfr _ (by omega)).trans hh2) (by repeat (first | with_reducible assumption | (with_reducible refine (sv_ls (by first | omega | (simp only [List.length_set]; omega))).trans ?_; exact rfl) | with_reducible refine (List.getElem?_set_ne (by decide)).trans ?_)) ?_
      refine v_iload dX13_sizeOf_108 0 rfl ?_
      refine v_ialdS (v := nI (p3 i)) dX13_sizeOf_110 (by first | with_reducible assumption | exact (hfr _ (by omega)).trans hmo | exact (hfr _ (by omega)).trans r1 | exact (hfr _ (by omega)).trans hh1 | exact (hfr _ (by omega)).trans hh2) (vp_in_nI (by omega) (by omega)) (by rw [nI_clamp (by omega)]; exact (hpp i (by omega)).1) ?_
      refine v_iload_n dX13_sizeOf_111 rfl 2 rfl ?_
      refine v_icmp_ne (tgt := 130) dX13_sizeOf_112 (by decide) (fun c_112 => ?_) (fun c_112 => ?_)
      · refine v_lconst (v := 0) dX13_sizeOf_130 (by decide) ?_
        refine v_ladd dX13_sizeOf_131 ?_
        refine v_lstore (L' := [(4, _), (6, _), (3, _), (2, _), (0, _), (1, _)]) dX13_sizeOf_132 (Nat.le_of_ble_eq_true rfl) rfl ?_
        refine v_iinc (j := 1) (L' := [(6, _), (4, _), (3, _), (2, _), (0, _), (1, _)]) (v := nI (i + 1)) dX13_sizeOf_134 rfl (nI_1 _) (Nat.le_of_ble_eq_true rfl) rfl ?_
        refine v_goto (tgt := 93) dX13_sizeOf_137 (by decide) ?_
        refine v_sub (L' := [(6, _), (4, _), (3, _), (2, _), (0, _), (1, _)]) [0, 1, 2, 3, 4, 5] rfl ?_
        have hpi := hpp i (by omega)
        have e9 := ih (i + 1) (by omega)
        rw [show ms_s p3 p4 f c a (i + 1) = ms_s p3 p4 f c a i + (if p3 i = c then f (p4 i) else 0) from rfl] at e9
        first
        | (have c9 : ¬ nI (p3 i) = nI c := c_112
           rw [if_neg (fun q => c9 (by rw [q]))] at e9
           exact e9)
        | (have c9 : nI (p3 i) = nI c := c_112
           rw [if_pos ((nI_eq (by omega) (by omega)).mp c9)] at e9
           exact e9)
      · refine v_aload_n dX13_sizeOf_115 rfl 4 rfl ?_
        refine v_getf 42 (ci := 11) (C := RX13) (T := TX13) (N := 71) rfl iwX13_sizeOf_X13 (Nat.le_of_ble_eq_true rfl) (by decide +kernel) dX13_sizeOf_116 (by first | with_reducible assumption | exact (hfr _ (by omega)).trans hmo | exact (hfr _ (by omega)).trans r1 | exact (hfr _ (by omega)).trans hh1 | exact (hfr _ (by omega)).trans hh2) (by repeat (first | with_reducible assumption | (with_reducible refine (sv_ls (by first | omega | (simp only [List.length_set]; omega))).trans ?_; exact rfl) | with_reducible refine (List.getElem?_set_ne (by decide)).trans ?_)) ?_
        refine v_aload_n dX13_sizeOf_119 rfl 4 rfl ?_
        refine v_getf 12 (ci := 11) (C := RX13) (T := TX13) (N := 71) rfl iwX13_sizeOf_X13 (Nat.le_of_ble_eq_true rfl) (by decide +kernel) dX13_sizeOf_120 (by first | with_reducible assumption | exact (hfr _ (by omega)).trans hmo | exact (hfr _ (by omega)).trans r1 | exact (hfr _ (by omega)).trans hh1 | exact (hfr _ (by omega)).trans hh2) (by repeat (first | with_reducible assumption | (with_reducible refine (sv_ls (by first | omega | (simp only [List.length_set]; omega))).trans ?_; exact rfl) | with_reducible refine (List.getElem?_set_ne (by decide)).trans ?_)) ?_
        refine v_iload dX13_sizeOf_123 0 rfl ?_
        refine v_ialdS (v := nI (p4 i)) dX13_sizeOf_125 (by first | with_reducible assumption | exact (hfr _ (by omega)).trans hmo | exact (hfr _ (by omega)).trans r1 | exact (hfr _ (by omega)).trans hh1 | exact (hfr _ (by omega)).trans hh2) (vp_in_nI (by omega) (by omega)) (by rw [nI_clamp (by omega)]; exact (hpp i (by omega)).2.1) ?_
        refine v_laldS (v := f (p4 i)) dX13_sizeOf_126 (by first | with_reducible assumption | exact (hfr _ (by omega)).trans hmo | exact (hfr _ (by omega)).trans r1 | exact (hfr _ (by omega)).trans hh1 | exact (hfr _ (by omega)).trans hh2) (vp_in_nI (by have := hpp i (by omega); omega) (by omega)) (by rw [nI_clamp (by have := hpp i (by omega); omega)]) ?_
        refine v_goto (tgt := 131) dX13_sizeOf_127 (by decide) ?_
        refine v_ladd dX13_sizeOf_131 ?_
        refine v_lstore (L' := [(4, _), (6, _), (3, _), (2, _), (0, _), (1, _)]) dX13_sizeOf_132 (Nat.le_of_ble_eq_true rfl) rfl ?_
        refine v_iinc (j := 1) (L' := [(6, _), (4, _), (3, _), (2, _), (0, _), (1, _)]) (v := nI (i + 1)) dX13_sizeOf_134 rfl (nI_1 _) (Nat.le_of_ble_eq_true rfl) rfl ?_
        refine v_goto (tgt := 93) dX13_sizeOf_137 (by decide) ?_
        refine v_sub (L' := [(6, _), (4, _), (3, _), (2, _), (0, _), (1, _)]) [0, 1, 2, 3, 4, 5] rfl ?_
        have hpi := hpp i (by omega)
        have e9 := ih (i + 1) (by omega)
        rw [show ms_s p3 p4 f c a (i + 1) = ms_s p3 p4 f c a i + (if p3 i = c then f (p4 i) else 0) from rfl] at e9
        first
        | (have c9 : ¬ nI (p3 i) = nI c := c_112
           rw [if_neg (fun q => c9 (by rw [q]))] at e9
           exact e9)
        | (have c9 : nI (p3 i) = nI c := c_112
           rw [if_pos ((nI_eq (by omega) (by omega)).mp c9)] at e9
           exact e9)

