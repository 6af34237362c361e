theorem ab_fs.rule {b : Nat} {k : Int32} {nc np pl tn nr nl : Nat} {lq lf : Int32} {nw : Nat} {fs : List Value} (H : ab_fs b k nc np pl tn nr nl lq lf nw fs) (x : Int32) : ab_fs b k nc np pl tn nr nl lq lf nw (fs.set 58 (.int x)) := by
  obtain ⟨p0, ⟨r, p1⟩, g0, g1, g2, g3, g4, g5, g6, g7, g8, g9, g10, g11, g12, g13, g14, g15, g16, g17, g18, g19, g20, g21, g22, g23, g24, g25, g26, g27, g28, g29, g30, g31, g32, g33, g34, g35, g36, g37, g38, g39, g40, g41, g42, g43, g44, g45, g46, g47, g48, g49⟩ := H
  exact ⟨by rw [List.length_set]; exact p0, ⟨x, sv_ls (by omega)⟩, (List.getElem?_set_ne (by decide)).trans g0, (List.getElem?_set_ne (by decide)).trans g1, (List.getElem?_set_ne (by decide)).trans g2, (List.getElem?_set_ne (by decide)).trans g3, (List.getElem?_set_ne (by decide)).trans g4, (List.getElem?_set_ne (by decide)).trans g5, (List.getElem?_set_ne (by decide)).trans g6, (List.getElem?_set_ne (by decide)).trans g7, (List.getElem?_set_ne (by decide)).trans g8, (List.getElem?_set_ne (by decide)).trans g9, (List.getElem?_set_ne (by decide)).trans g10, (List.getElem?_set_ne (by decide)).trans g11, (List.getElem?_set_ne (by decide)).trans g12, (List.getElem?_set_ne (by decide)).trans g13, (List.getElem?_set_ne (by decide)).trans g14, (List.getElem?_set_ne (by decide)).trans g15, (List.getElem?_set_ne (by decide)).trans g16, (List.getElem?_set_ne (by decide)).trans g17, (List.getElem?_set_ne (by decide)).trans g18, (List.getElem?_set_ne (by decide)).trans g19, (List.getElem?_set_ne (by decide)).trans g20, (List.getElem?_set_ne (by decide)).trans g21, (List.getElem?_set_ne (by decide)).trans g22, (List.getElem?_set_ne (by decide)).trans g23, (List.getElem?_set_ne (by decide)).trans g24, (List.getElem?_set_ne (by decide)).trans g25, (List.getElem?_set_ne (by decide)).trans g26, (List.getElem?_set_ne (by decide)).trans g27, (List.getElem?_set_ne (by decide)).trans g28, (List.getElem?_set_ne (by decide)).trans g29, (List.getElem?_set_ne (by decide)).trans g30, (List.getElem?_set_ne (by decide)).trans g31, (List.getElem?_set_ne (by decide)).trans g32, (List.getElem?_set_ne (by decide)).trans g33, (List.getElem?_set_ne (by decide)).trans g34, (List.getElem?_set_ne (by decide)).trans g35, (List.getElem?_set_ne (by decide)).trans g36, (List.getElem?_set_ne (by decide)).trans g37, (List.getElem?_set_ne (by decide)).trans g38, (List.getElem?_set_ne (by decide)).trans g39, (List.getElem?_set_ne (by decide)).trans g40, (List.getElem?_set_ne (by decide)).trans g41, (List.getElem?_set_ne (by decide)).trans g42, (List.getElem?_set_ne (by decide)).trans g43, (List.getElem?_set_ne (by decide)).trans g44, (List.getElem?_set_ne (by decide)).trans g45, (List.getElem?_set_ne (by decide)).trans g46, (List.getElem?_set_ne (by decide)).trans g47, (List.getElem?_set_ne (by decide)).trans g48, (List.getElem?_set_ne (by decide)).trans g49⟩
set_option maxHeartbeats 4000000 in
set_option maxRecDepth 100000 in
theorem l_waivem (G : sv_G) (P : sv_P) (h : sv_h) (z b k0 nw : Nat) (w2 w3 : Int32) (ds tf wf : Nat → Int64) (fs : List Value) (hlen : fs.length = 71) (hm : h (b + 220) = some (.inr (11, fs))) (f_waived : fs[33]? = some (.int (nI nw))) (f_waivedAt : fs[34]? = some (.ref (b + 242))) (f_told : fs[27]? = some (.ref (b + 241))) (htf : ab_J G h (b + 241) 36048 tf) (hk0 : k0 < 1500) (hnw : nw < 40) (d4 : ∀ j, j < 4 → ds (4 + j) = tf (18024 + (12 * k0 + (8 + j)))) (hk : ∀ (hi : sv_h) (f : Nat → Int64), ab_J G hi (b + 242) 320 f → f (8 * nw + 0) = ds 0 → f (8 * nw + 1) = ds 1 → (∀ j, j < 4 → f (8 * nw + (2 + j)) = ds (4 + j)) → (∀ q, q < 8 * nw → f q = wf q) → (∀ a, a ≠ b + 242 → hi a = h a) → V G mX13_waive P 192 [(5, .int (nI 4)), (4, .int (nI (18024 + 12 * k0))), (3, .int w3), (2, .int w2), (0, .ref (b + 220)), (1, .int (nI k0))] [] hi z 0 0) : ∀ (c i : Nat) (hi : sv_h) (f : Nat → Int64), i + c = 4 → ab_J G hi (b + 242) 320 f → f (8 * nw + 0) = ds 0 → f (8 * nw + 1) = ds 1 → (∀ j, j < i → f (8 * nw + (2 + j)) = ds (4 + j)) → (∀ q, q < 8 * nw → f q = wf q) → (∀ a, a ≠ b + 242 → hi a = h a) → V G mX13_waive P 150 [(5, .int (nI i)), (4, .int (nI (18024 + 12 * k0))), (3, .int w3), (2, .int w2), (0, .ref (b + 220)), (1, .int (nI k0))] [] hi z 0 0 := by
  intro c
  induction c with
  | zero =>
    intro i hi f hic hf e0 e1 e2 e3 hfr
    refine v_iload dX13_waive_150 0 rfl ?_
    refine v_iconst (v := 4) dX13_waive_152 (by decide) ?_
    refine v_icmp_ge (tgt := 192) dX13_waive_153 (by decide) (fun c_153 => ?_) (fun c_153 => ?_)
    · (obtain rfl : i = 4 := by omega)
      exact hk hi f hf e0 e1 e2 e3 hfr
    · exact absurd (show (4 : Int32) ≤ nI i from nI_le (a := 4) (by omega) (by omega)) c_153
  | succ c ih =>
    intro i hi f hic hf e0 e1 e2 e3 hfr
    refine v_iload dX13_waive_150 0 rfl ?_
    refine v_iconst (v := 4) dX13_waive_152 (by decide) ?_
    refine v_icmp_ge (tgt := 192) dX13_waive_153 (by decide) (fun c_153 => ?_) (fun c_153 => ?_)
    · exact absurd c_153 (nI_ge (b := 4) (by omega) (by omega))
    · refine v_aload_n dX13_waive_156 rfl 4 rfl ?_
      refine v_getf 34 (ci := 11) (C := RX13) (T := TX13) (N := 71) rfl iwX13_waive_X13 (Nat.le_of_ble_eq_true rfl) (by decide +kernel) dX13_waive_157 (by first | with_reducible assumption | exact (hfr _ (by omega)).trans hm | exact (hfr _ (by omega)).trans htf) (by repeat (first | with_reducible assumption | (with_reducible refine (sv_ls (by first | omega | (simp only [List.length_set]; omega))).trans ?_; exact rfl) | with_reducible refine (List.getElem?_set_ne (by decide)).trans ?_)) ?_
      refine v_bipush (v := 8) dX13_waive_160 (by decide) ?_
      refine v_aload_n dX13_waive_162 rfl 4 rfl ?_
      refine v_getf 33 (ci := 11) (C := RX13) (T := TX13) (N := 71) rfl iwX13_waive_X13 (Nat.le_of_ble_eq_true rfl) (by decide +kernel) dX13_waive_163 (by first | with_reducible assumption | exact (hfr _ (by omega)).trans hm | exact (hfr _ (by omega)).trans htf) (by repeat (first | with_reducible assumption | (with_reducible refine (sv_ls (by first | omega | (simp only [List.length_set]; omega))).trans ?_; exact rfl) | with_reducible refine (List.getElem?_set_ne (by decide)).trans ?_)) ?_
      refine v_imul dX13_waive_166 ?_
      refine v_iconst (v := 2) dX13_waive_167 (by decide) ?_
      refine v_iadd dX13_waive_168 ?_
      refine v_iload dX13_waive_169 0 rfl ?_
      refine v_iadd dX13_waive_171 ?_
      refine v_aload_n dX13_waive_172 rfl 4 rfl ?_
      refine v_getf 27 (ci := 11) (C := RX13) (T := TX13) (N := 71) rfl iwX13_waive_X13 (Nat.le_of_ble_eq_true rfl) (by decide +kernel) dX13_waive_173 (by first | with_reducible assumption | exact (hfr _ (by omega)).trans hm | exact (hfr _ (by omega)).trans htf) (by repeat (first | with_reducible assumption | (with_reducible refine (sv_ls (by first | omega | (simp only [List.length_set]; omega))).trans ?_; exact rfl) | with_reducible refine (List.getElem?_set_ne (by decide)).trans ?_)) ?_
      refine v_iload dX13_waive_176 1 rfl ?_
      refine v_bipush (v := 8) dX13_waive_178 (by decide) ?_
      refine v_iadd dX13_waive_180 ?_
      refine v_iload dX13_waive_181 0 rfl ?_
      refine v_iadd dX13_waive_183 ?_
      refine v_laldS (v := ds (4 + i)) dX13_waive_184 (by first | with_reducible assumption | exact (hfr _ (by omega)).trans hm | exact (hfr _ (by omega)).trans htf) (by rw [show (8 : Int32) = nI 8 from rfl, nI_add, nI_add]; exact vp_in_nI (by omega) (by omega)) (by rw [show (8 : Int32) = nI 8 from rfl, nI_add, nI_add, nI_clamp (by omega), d4 i (by omega)]; congr 1; omega) ?_
      refine v_last dX13_waive_185 (by first | with_reducible assumption | exact (hfr _ (by omega)).trans hm | exact (hfr _ (by omega)).trans htf) (by rw [show (2 : Int32) = nI 2 from rfl, sv_8b, nI_add]; exact vp_in_nI (by omega) (by omega)) ?_
      refine v_iinc (j := 0) (L' := [(5, _), (4, _), (3, _), (2, _), (0, _), (1, _)]) (v := nI (i + 1)) dX13_waive_186 rfl (nI_1 _) (Nat.le_of_ble_eq_true rfl) rfl ?_
      refine v_goto (tgt := 150) dX13_waive_189 (by decide) ?_
      refine v_sub (L' := [(5, _), (4, _), (3, _), (2, _), (0, _), (1, _)]) [0, 1, 2, 3, 4, 5] rfl ?_
      have ecl : ((8 : Int32) * nI nw + 2 + nI i).toNatClampNeg = 8 * nw + (2 + i) := by rw [show (2 : Int32) = nI 2 from rfl, sv_8b, nI_add, nI_clamp (by omega), Nat.add_assoc]
      rw [ecl]
      refine ih (i + 1) _ _ (by omega) sv_us ((sv_updL_ne (by omega)).trans e0) ((sv_updL_ne (by omega)).trans e1) (fun j hj => ?_) (fun q hq => (sv_updL_ne (by omega)).trans (e3 q hq)) (fun a q1 => (sv_un q1).trans (hfr a q1))
      by_cases e : j = i
      · rw [e, sv_updL_eq]
      · rw [sv_updL_ne (by omega)]; exact e2 j (by omega)

theorem sv_wfin {f wf wr ds : Nat → Int64} {nw : Nat} (e0 : f (8 * nw + 0) = ds 0) (e1 : f (8 * nw + 1) = ds 1) (e2 : ∀ j, j < 4 → f (8 * nw + (2 + j)) = ds (4 + j)) (e3 : ∀ q, q < 8 * nw → f q = wf q) (hwr : ∀ k, k < nw → ∀ j, j < 8 → wf (8 * k + ab_wc j) = wr (8 * k + j)) : ∀ k1, k1 < nw + 1 → ∀ j, j < 8 → vp_updL (vp_updL f (8 * nw + 6) (ds 2)) (8 * nw + 7) (ds 3) (8 * k1 + ab_wc j) = (if k1 < nw then wr (8 * k1 + j) else ds j) := by
  intro k1 h1 j hj
  have hc : ab_wc j < 8 := by
    unfold ab_wc
    split
    · omega
    · split <;> omega
  by_cases q : k1 < nw
  · rw [if_pos q, sv_updL_ne (by omega), sv_updL_ne (by omega), e3 _ (by omega)]; exact hwr k1 q j hj
  · obtain rfl : k1 = nw := by omega
    rw [if_neg q]
    rcases (show j = 0 ∨ j = 1 ∨ j = 2 ∨ j = 3 ∨ j = 4 ∨ j = 5 ∨ j = 6 ∨ j = 7 by omega) with rfl | rfl | rfl | rfl | rfl | rfl | rfl | rfl
    · rw [show ab_wc 0 = 0 from rfl, sv_updL_ne (by omega), sv_updL_ne (by omega)]; exact e0
    · rw [show ab_wc 1 = 1 from rfl, sv_updL_ne (by omega), sv_updL_ne (by omega)]; exact e1
    · rw [show ab_wc 2 = 6 from rfl, sv_updL_ne (by omega), sv_updL_eq]
    · rw [show ab_wc 3 = 7 from rfl, sv_updL_eq]
    · rw [show ab_wc 4 = 2 from rfl, sv_updL_ne (by omega), sv_updL_ne (by omega)]; exact e2 0 (by omega)
    · rw [show ab_wc 5 = 3 from rfl, sv_updL_ne (by omega), sv_updL_ne (by omega)]; exact e2 1 (by omega)
    · rw [show ab_wc 6 = 4 from rfl, sv_updL_ne (by omega), sv_updL_ne (by omega)]; exact e2 2 (by omega)
    · rw [show ab_wc 7 = 5 from rfl, sv_updL_ne (by omega), sv_updL_ne (by omega)]; exact e2 3 (by omega)
theorem sv_w41 {n : Nat} (hn : n ≤ 40) (h : ¬ nI n = (40 : Int32)) : n < 40 := by
  have : ¬ n = 40 := fun q => h (by rw [q]; rfl)
  omega
theorem sv_w42 {n : Nat} (hn : n ≤ 40) (h : nI n = (40 : Int32)) : n = 40 := (nI_eq (b := 40) (by omega) (by omega)).mp h
set_option maxHeartbeats 4000000 in
set_option maxRecDepth 100000 in
theorem m_waive (G : sv_G) (h : sv_h) (z b : Nat) (fs : List Value) (k : Int32) (nc np pl tn nr nl : Nat) (lq lf : Int32) (nw : Nat) (gfs : ab_fs b k nc np pl tn nr nl lq lf nw fs) (hm : h (b + 220) = some (.inr (11, fs))) (k0 : Nat) (hk : k0 < nl) (tf wf wr lr : Nat → Int64) (htf : ab_J G h (b + 241) 36048 tf) (hwf : ab_J G h (b + 242) 320 wf) (hlr : ∀ k, k < nl → ∀ j, j < 12 → tf (18024 + (12 * k + j)) = lr (12 * k + j)) (hwr : ∀ k, k < nw → ∀ j, j < 8 → wf (8 * k + ab_wc j) = wr (8 * k + j)) (hnl : nl ≤ 1500) (hnw : nw ≤ 40) : CT G mX13_waive [.ref (b + 220), .int (nI k0)] h z (fun v h1 z1 => z1 = z ∧ ∃ F : List Value, h1 (b + 220) = some (.inr (11, F)) ∧ ((ab_cv wr (ab_ds lq lr k0) nw ∧ v = some (.int 0) ∧ F[0]? = some (.int 0) ∧ ab_fs b k nc np pl tn nr nl lq lf nw F ∧ ∀ a, a ≠ b + 220 → h1 a = h a) ∨ (¬ ab_cv wr (ab_ds lq lr k0) nw ∧ nw = 40 ∧ v = some (.int 0) ∧ F[0]? = some (.int 2) ∧ ab_fs b k nc np pl tn nr nl lq lf nw F ∧ ∀ a, a ≠ b + 220 → h1 a = h a) ∨ (¬ ab_cv wr (ab_ds lq lr k0) nw ∧ nw < 40 ∧ v = some (.int 1) ∧ F[0]? = some (.int 0) ∧ ab_fs b k nc np pl tn nr nl lq lf (nw + 1) F ∧ (∃ f2, ab_J G h1 (b + 242) 320 f2 ∧ ∀ k1, k1 < nw + 1 → ∀ j, j < 8 → f2 (8 * k1 + ab_wc j) = (if k1 < nw then wr (8 * k1 + j) else ab_ds lq lr k0 j)) ∧ ∀ a, a ≠ b + 220 → a ≠ b + 242 → h1 a = h a))) := by
  refine CT.of (by decide +kernel) rfl rfl (Nat.le_of_ble_eq_true rfl) ?_
  have hlen := gfs.1
  have f_waived := gfs.f_waived
  have f_waivedAt := gfs.f_waivedAt
  have f_told := gfs.f_told
  have f_latest := gfs.f_latest
  have f_latestRule := gfs.f_latestRule
  obtain ⟨r0, f_rule⟩ := gfs.2.1
  have hg : 0 ≤ nI k0 ∧ nI k0 < nI nl := ⟨nI_le (a := 0) (by omega) (by omega), nI_lt hk (by omega)⟩
  have d1 : ab_ds lq lr k0 1 = tf (18024 + 12 * k0 + 7) := by rw [Nat.add_assoc, hlr k0 hk 7 (by omega)]; rfl
  have d2 : ab_ds lq lr k0 2 = tf (18024 + 12 * k0 + 4) := by rw [Nat.add_assoc, hlr k0 hk 4 (by omega)]; rfl
  have d3 : ab_ds lq lr k0 3 = tf (18024 + 12 * k0 + 5) := by rw [Nat.add_assoc, hlr k0 hk 5 (by omega)]; rfl
  have d4 : ∀ j, j < 4 → ab_ds lq lr k0 (4 + j) = tf (18024 + (12 * k0 + (8 + j))) := by
    intro j hj
    rw [hlr k0 hk (8 + j) (by omega), ab_ds, if_neg (by omega), if_neg (by omega), if_neg (by omega), if_neg (by omega), show 4 + j + 4 = 8 + j by omega]
  refine v_aload_n dX13_waive_0 rfl 0 rfl ?_
  refine v_iload_n dX13_waive_1 rfl 1 rfl ?_
  refine v_if_lt (tgt := 13) dX13_waive_2 (by decide) (fun c_2 => ?_) (fun c_2 => ?_)
  · exact absurd c_2 (nI_pos (by omega))
  · refine v_iload_n dX13_waive_5 rfl 1 rfl ?_
    refine v_aload_n dX13_waive_6 rfl 0 rfl ?_
    refine v_getf 30 (ci := 11) (C := RX13) (T := TX13) (N := 71) rfl iwX13_waive_X13 (Nat.le_of_ble_eq_true rfl) (by decide +kernel) dX13_waive_7 (by repeat (first | (with_reducible refine sv_us.trans ?_; exact rfl) | with_reducible assumption | with_reducible refine (sv_un (by omega)).trans ?_)) (by repeat (first | with_reducible assumption | (with_reducible refine (sv_ls (by first | omega | (simp only [List.length_set]; omega))).trans ?_; exact rfl) | with_reducible refine (List.getElem?_set_ne (by decide)).trans ?_)) ?_
    refine v_icmp_lt (tgt := 17) dX13_waive_10 (by decide) (fun c_10 => ?_) (fun c_10 => ?_)
    · refine v_iconst (v := 0) dX13_waive_17 (by decide) ?_
      refine v_putf 0 (fs' := _) (ci := 11) (C := RX13) (T := TX13) (N := 71) (ty := .int) rfl iwX13_waive_X13 tyX13 tyX13_ok nmX13 (Nat.le_of_ble_eq_true rfl) (by decide +kernel) rfl rfl dX13_waive_18 rfl rfl (by repeat (first | (with_reducible refine sv_us.trans ?_; exact rfl) | with_reducible assumption | with_reducible refine (sv_un (by omega)).trans ?_)) (by first | omega | (simp only [List.length_set]; omega)) rfl ?_
      refine v_aload_n dX13_waive_21 rfl 0 rfl ?_
      refine v_getf 0 (ci := 11) (C := RX13) (T := TX13) (N := 71) rfl iwX13_waive_X13 (Nat.le_of_ble_eq_true rfl) (by decide +kernel) dX13_waive_22 (by repeat (first | (with_reducible refine sv_us.trans ?_; exact rfl) | with_reducible assumption | with_reducible refine (sv_un (by omega)).trans ?_)) (by repeat (first | with_reducible assumption | (with_reducible refine (sv_ls (by first | omega | (simp only [List.length_set]; omega))).trans ?_; exact rfl) | with_reducible refine (List.getElem?_set_ne (by decide)).trans ?_)) ?_
      refine v_if_le (tgt := 30) dX13_waive_25 (by decide) (fun c_25 => ?_) (fun c_25 => ?_)
      · refine v_aload_n dX13_waive_30 rfl 0 rfl ?_
        refine v_getf 58 (ci := 11) (C := RX13) (T := TX13) (N := 71) rfl iwX13_waive_X13 (Nat.le_of_ble_eq_true rfl) (by decide +kernel) dX13_waive_31 (by repeat (first | (with_reducible refine sv_us.trans ?_; exact rfl) | with_reducible assumption | with_reducible refine (sv_un (by omega)).trans ?_)) (by repeat (first | with_reducible assumption | (with_reducible refine (sv_ls (by first | omega | (simp only [List.length_set]; omega))).trans ?_; exact rfl) | with_reducible refine (List.getElem?_set_ne (by decide)).trans ?_)) ?_
        refine v_istore_n (L' := [(2, _), (0, _), (1, _)]) dX13_waive_34 rfl (Nat.le_of_ble_eq_true rfl) rfl ?_
        refine v_aload_n dX13_waive_35 rfl 1 rfl ?_
        refine v_aload_n dX13_waive_36 rfl 1 rfl ?_
        refine v_getf 31 (ci := 11) (C := RX13) (T := TX13) (N := 71) rfl iwX13_waive_X13 (Nat.le_of_ble_eq_true rfl) (by decide +kernel) dX13_waive_37 (by repeat (first | (with_reducible refine sv_us.trans ?_; exact rfl) | with_reducible assumption | with_reducible refine (sv_un (by omega)).trans ?_)) (by repeat (first | with_reducible assumption | (with_reducible refine (sv_ls (by first | omega | (simp only [List.length_set]; omega))).trans ?_; exact rfl) | with_reducible refine (List.getElem?_set_ne (by decide)).trans ?_)) ?_
        refine v_putf 58 (fs' := _) (ci := 11) (C := RX13) (T := TX13) (N := 71) (ty := .int) rfl iwX13_waive_X13 tyX13 tyX13_ok nmX13 (Nat.le_of_ble_eq_true rfl) (by decide +kernel) rfl rfl dX13_waive_40 rfl rfl (by repeat (first | (with_reducible refine sv_us.trans ?_; exact rfl) | with_reducible assumption | with_reducible refine (sv_un (by omega)).trans ?_)) (by first | omega | (simp only [List.length_set]; omega)) rfl ?_
        refine v_aload_n dX13_waive_43 rfl 1 rfl ?_
        refine v_sipush (v := 18024) dX13_waive_44 (by decide) ?_
        refine v_bipush (v := 12) dX13_waive_47 (by decide) ?_
        refine v_iload_n dX13_waive_49 rfl 2 rfl ?_
        refine v_imul dX13_waive_50 ?_
        refine v_iadd dX13_waive_51 ?_
        refine v_callV (M' := mX13_isWaived) (n := 1) (As := [_]) (ci := 11) (r := (RX13, TX13, 71)) gX13_waive_X13_isWaived rfl (by decide +kernel) ⟨(Nat.le_of_ble_eq_true rfl), (Nat.le_of_ble_eq_true rfl)⟩ rfl rfl dX13_waive_52 rfl ⟨(Nat.le_of_ble_eq_true rfl), (Nat.le_of_ble_eq_true rfl)⟩ (Nat.le_of_ble_eq_true rfl) (by repeat (first | (with_reducible refine sv_us.trans ?_; exact rfl) | with_reducible assumption | with_reducible refine (sv_un (by omega)).trans ?_)) rfl ((by rw [sv_12c]; exact m_isWaived G _ z b (18024 + 12 * k0) nw ((fs.set 0 (.int 0)).set 58 (.int lq)) lq wr (ab_ds lq lr k0) tf wf (by rw [List.length_set, List.length_set]; exact hlen) (by rw [sv_us]) ((List.getElem?_set_ne (by decide)).trans ((List.getElem?_set_ne (by decide)).trans f_waived)) ((List.getElem?_set_ne (by decide)).trans ((List.getElem?_set_ne (by decide)).trans f_waivedAt)) (sv_ls (by rw [List.length_set, hlen]; decide)) ((List.getElem?_set_ne (by decide)).trans ((List.getElem?_set_ne (by decide)).trans f_told)) (by repeat (first | with_reducible assumption | with_reducible refine (sv_un (by omega)).trans ?_)) (by repeat (first | with_reducible assumption | with_reducible refine (sv_un (by omega)).trans ?_)) (by omega) hnw hwr rfl d1 d2 d3 (fun j hj => (d4 j hj).trans (by rw [Nat.add_assoc])))) (fun v h1 z1 hq => ?_)
        obtain ⟨⟨w9, rfl, hw9⟩, rfl, rfl⟩ := hq
        refine v_istore_n (L' := [(3, _), (2, _), (0, _), (1, _)]) dX13_waive_55 rfl (Nat.le_of_ble_eq_true rfl) rfl ?_
        refine v_aload_n dX13_waive_56 rfl 2 rfl ?_
        refine v_iload_n dX13_waive_57 rfl 1 rfl ?_
        refine v_putf 58 (fs' := _) (ci := 11) (C := RX13) (T := TX13) (N := 71) (ty := .int) rfl iwX13_waive_X13 tyX13 tyX13_ok nmX13 (Nat.le_of_ble_eq_true rfl) (by decide +kernel) rfl rfl dX13_waive_58 rfl rfl (by repeat (first | (with_reducible refine sv_us.trans ?_; exact rfl) | with_reducible assumption | with_reducible refine (sv_un (by omega)).trans ?_)) (by first | omega | (simp only [List.length_set]; omega)) rfl ?_
        refine v_aload_n dX13_waive_61 rfl 2 rfl ?_
        refine v_iload_n dX13_waive_62 rfl 0 rfl ?_
        refine v_if_ne (tgt := 79) dX13_waive_63 (by decide) (fun c_63 => ?_) (fun c_63 => ?_)
        · refine v_iconst (v := 0) dX13_waive_79 (by decide) ?_
          refine v_putf 0 (fs' := _) (ci := 11) (C := RX13) (T := TX13) (N := 71) (ty := .int) rfl iwX13_waive_X13 tyX13 tyX13_ok nmX13 (Nat.le_of_ble_eq_true rfl) (by decide +kernel) rfl rfl dX13_waive_80 rfl rfl (by repeat (first | (with_reducible refine sv_us.trans ?_; exact rfl) | with_reducible assumption | with_reducible refine (sv_un (by omega)).trans ?_)) (by first | omega | (simp only [List.length_set]; omega)) rfl ?_
          refine v_aload_n dX13_waive_83 rfl 2 rfl ?_
          refine v_getf 0 (ci := 11) (C := RX13) (T := TX13) (N := 71) rfl iwX13_waive_X13 (Nat.le_of_ble_eq_true rfl) (by decide +kernel) dX13_waive_84 (by repeat (first | (with_reducible refine sv_us.trans ?_; exact rfl) | with_reducible assumption | with_reducible refine (sv_un (by omega)).trans ?_)) (by repeat (first | with_reducible assumption | (with_reducible refine (sv_ls (by first | omega | (simp only [List.length_set]; omega))).trans ?_; exact rfl) | with_reducible refine (List.getElem?_set_ne (by decide)).trans ?_)) ?_
          refine v_if_gt (tgt := 94) dX13_waive_87 (by decide) (fun c_87 => ?_) (fun c_87 => ?_)
          · refine v_iconst (v := 0) dX13_waive_94 (by decide) ?_
            exact v_iret rfl dX13_waive_95 (Nat.le_of_ble_eq_true rfl) (Nat.le_of_ble_eq_true rfl) rfl (by first | exact absurd c_87 (by decide) | exact absurd c_63 c_91 | exact ⟨rfl, _, sv_us, Or.inl ⟨(hw9.resolve_right (fun q => c_63 q.1)).2, rfl, sv_ls (by simp only [List.length_set]; omega), (((gfs.code (.int 0)).rule lq).rule r0).code (.int 0), (fun a q1 => by repeat (first | with_reducible rfl | with_reducible refine (sv_un q1).trans ?_))⟩⟩ | exact ⟨rfl, _, sv_us, Or.inr (Or.inl ⟨(hw9.resolve_left (fun q => by rw [q.1] at c_63; exact absurd c_63 (by decide))).2, sv_w42 hnw c_72, rfl, sv_ls (by simp only [List.length_set]; omega), (((gfs.code (.int 0)).rule lq).rule r0).code (.int 2), (fun a q1 => by repeat (first | with_reducible rfl | with_reducible refine (sv_un q1).trans ?_))⟩)⟩)
          · refine v_iload_n dX13_waive_90 rfl 0 rfl ?_
            refine v_if_eq (tgt := 96) dX13_waive_91 (by decide) (fun c_91 => ?_) (fun c_91 => ?_)
            · refine v_sipush (v := 18024) dX13_waive_96 (by decide) ?_
              refine v_bipush (v := 12) dX13_waive_99 (by decide) ?_
              refine v_iload_n dX13_waive_101 rfl 3 rfl ?_
              refine v_imul dX13_waive_102 ?_
              refine v_iadd dX13_waive_103 ?_
              rw [sv_12c]
              refine v_istore (L' := [(4, _), (3, _), (2, _), (0, _), (1, _)]) dX13_waive_104 (Nat.le_of_ble_eq_true rfl) rfl ?_
              refine v_aload_n dX13_waive_106 rfl 3 rfl ?_
              refine v_getf 34 (ci := 11) (C := RX13) (T := TX13) (N := 71) rfl iwX13_waive_X13 (Nat.le_of_ble_eq_true rfl) (by decide +kernel) dX13_waive_107 (by repeat (first | (with_reducible refine sv_us.trans ?_; exact rfl) | with_reducible assumption | with_reducible refine (sv_un (by omega)).trans ?_)) (by repeat (first | with_reducible assumption | (with_reducible refine (sv_ls (by first | omega | (simp only [List.length_set]; omega))).trans ?_; exact rfl) | with_reducible refine (List.getElem?_set_ne (by decide)).trans ?_)) ?_
              refine v_bipush (v := 8) dX13_waive_110 (by decide) ?_
              refine v_aload_n dX13_waive_112 rfl 3 rfl ?_
              refine v_getf 33 (ci := 11) (C := RX13) (T := TX13) (N := 71) rfl iwX13_waive_X13 (Nat.le_of_ble_eq_true rfl) (by decide +kernel) dX13_waive_113 (by repeat (first | (with_reducible refine sv_us.trans ?_; exact rfl) | with_reducible assumption | with_reducible refine (sv_un (by omega)).trans ?_)) (by repeat (first | with_reducible assumption | (with_reducible refine (sv_ls (by first | omega | (simp only [List.length_set]; omega))).trans ?_; exact rfl) | with_reducible refine (List.getElem?_set_ne (by decide)).trans ?_)) ?_
              refine v_imul dX13_waive_116 ?_
              refine v_aload_n dX13_waive_117 rfl 3 rfl ?_
              refine v_getf 31 (ci := 11) (C := RX13) (T := TX13) (N := 71) rfl iwX13_waive_X13 (Nat.le_of_ble_eq_true rfl) (by decide +kernel) dX13_waive_118 (by repeat (first | (with_reducible refine sv_us.trans ?_; exact rfl) | with_reducible assumption | with_reducible refine (sv_un (by omega)).trans ?_)) (by repeat (first | with_reducible assumption | (with_reducible refine (sv_ls (by first | omega | (simp only [List.length_set]; omega))).trans ?_; exact rfl) | with_reducible refine (List.getElem?_set_ne (by decide)).trans ?_)) ?_
              refine v_i2l dX13_waive_121 rfl ?_
              refine v_last dX13_waive_122 (by repeat (first | (with_reducible refine sv_us.trans ?_; exact rfl) | with_reducible assumption | with_reducible refine (sv_un (by omega)).trans ?_)) (by rw [sv_8c]; exact vp_in_nI (by first | (have q9 := sv_w41 hnw c_72; omega) | exact absurd c_91 c_63 | exact absurd (by decide) c_87) (by omega)) ?_
              refine v_aload_n dX13_waive_123 rfl 3 rfl ?_
              refine v_getf 34 (ci := 11) (C := RX13) (T := TX13) (N := 71) rfl iwX13_waive_X13 (Nat.le_of_ble_eq_true rfl) (by decide +kernel) dX13_waive_124 (by repeat (first | (with_reducible refine sv_us.trans ?_; exact rfl) | with_reducible assumption | with_reducible refine (sv_un (by omega)).trans ?_)) (by repeat (first | with_reducible assumption | (with_reducible refine (sv_ls (by first | omega | (simp only [List.length_set]; omega))).trans ?_; exact rfl) | with_reducible refine (List.getElem?_set_ne (by decide)).trans ?_)) ?_
              refine v_bipush (v := 8) dX13_waive_127 (by decide) ?_
              refine v_aload_n dX13_waive_129 rfl 3 rfl ?_
              refine v_getf 33 (ci := 11) (C := RX13) (T := TX13) (N := 71) rfl iwX13_waive_X13 (Nat.le_of_ble_eq_true rfl) (by decide +kernel) dX13_waive_130 (by repeat (first | (with_reducible refine sv_us.trans ?_; exact rfl) | with_reducible assumption | with_reducible refine (sv_un (by omega)).trans ?_)) (by repeat (first | with_reducible assumption | (with_reducible refine (sv_ls (by first | omega | (simp only [List.length_set]; omega))).trans ?_; exact rfl) | with_reducible refine (List.getElem?_set_ne (by decide)).trans ?_)) ?_
              refine v_imul dX13_waive_133 ?_
              refine v_iconst (v := 1) dX13_waive_134 (by decide) ?_
              refine v_iadd dX13_waive_135 ?_
              refine v_aload_n dX13_waive_136 rfl 3 rfl ?_
              refine v_getf 27 (ci := 11) (C := RX13) (T := TX13) (N := 71) rfl iwX13_waive_X13 (Nat.le_of_ble_eq_true rfl) (by decide +kernel) dX13_waive_137 (by repeat (first | (with_reducible refine sv_us.trans ?_; exact rfl) | with_reducible assumption | with_reducible refine (sv_un (by omega)).trans ?_)) (by repeat (first | with_reducible assumption | (with_reducible refine (sv_ls (by first | omega | (simp only [List.length_set]; omega))).trans ?_; exact rfl) | with_reducible refine (List.getElem?_set_ne (by decide)).trans ?_)) ?_
              refine v_iload dX13_waive_140 0 rfl ?_
              refine v_bipush (v := 7) dX13_waive_142 (by decide) ?_
              refine v_iadd dX13_waive_144 ?_
              refine v_laldS (v := ab_ds lq lr k0 1) dX13_waive_145 (by repeat (first | (with_reducible refine sv_us.trans ?_; exact rfl) | with_reducible assumption | with_reducible refine (sv_un (by omega)).trans ?_)) (by rw [show (7 : Int32) = nI 7 from rfl, nI_add]; exact vp_in_nI (by omega) (by omega)) (by rw [show (7 : Int32) = nI 7 from rfl, nI_add, nI_clamp (by omega), d1]) ?_
              refine v_last dX13_waive_146 (by repeat (first | (with_reducible refine sv_us.trans ?_; exact rfl) | with_reducible assumption | with_reducible refine (sv_un (by omega)).trans ?_)) (by rw [show (1 : Int32) = nI 1 from rfl, sv_8b]; exact vp_in_nI (by first | (have q9 := sv_w41 hnw c_72; omega) | exact absurd c_91 c_63 | exact absurd (by decide) c_87) (by omega)) ?_
              refine v_iconst (v := 0) dX13_waive_147 (by decide) ?_
              refine v_istore (L' := [(5, _), (4, _), (3, _), (2, _), (0, _), (1, _)]) dX13_waive_148 (Nat.le_of_ble_eq_true rfl) rfl ?_
              refine v_sub (L' := [(5, _), (4, _), (3, _), (2, _), (0, _), (1, _)]) [0, 1, 2, 3, 4, 5] rfl ?_
              first
              | exact absurd c_91 c_63
              | exact absurd (by decide) c_87
              | (refine v_nameh (fun hx ehx => ?_)
                 have hm1 : hx (b + 220) = some (.inr (11, ((((fs.set 0 (.int 0)).set 58 (.int lq)).set 58 (.int r0)).set 0 (.int 0)))) := by rw [ehx]; exact (by repeat (first | with_reducible assumption | with_reducible exact sv_us | with_reducible refine (sv_un (by omega)).trans ?_))
                 have ht1 : ab_J G hx (b + 241) 36048 tf := by rw [ehx]; exact (by repeat (first | with_reducible assumption | with_reducible exact sv_us | with_reducible refine (sv_un (by omega)).trans ?_))
                 have hfr1 : ∀ a, a ≠ b + 220 → a ≠ b + 242 → hx a = h a := by
                   intro a q1 q2
                   rw [ehx]
                   repeat (first | with_reducible rfl | with_reducible refine (sv_un (by assumption)).trans ?_)
                 have hw2 : ab_J G hx (b + 242) 320 (vp_updL (vp_updL wf (8 * nw) lq.toInt64) (8 * nw + 1) (ab_ds lq lr k0 1)) := by
                   rw [ehx, show ((8 : Int32) * nI nw).toNatClampNeg = 8 * nw by rw [sv_8c, nI_clamp (by omega)], show ((8 : Int32) * nI nw + 1).toNatClampNeg = 8 * nw + 1 by rw [show (1 : Int32) = nI 1 from rfl, sv_8b, nI_clamp (by omega)]]
                   exact sv_us
                 clear ehx
                 refine l_waivem G _ hx _ b k0 nw _ _ (ab_ds lq lr k0) tf wf ((((fs.set 0 (.int 0)).set 58 (.int lq)).set 58 (.int r0)).set 0 (.int 0)) (by simp only [List.length_set]; exact hlen) hm1 ((List.getElem?_set_ne (by decide)).trans ((List.getElem?_set_ne (by decide)).trans ((List.getElem?_set_ne (by decide)).trans ((List.getElem?_set_ne (by decide)).trans f_waived)))) ((List.getElem?_set_ne (by decide)).trans ((List.getElem?_set_ne (by decide)).trans ((List.getElem?_set_ne (by decide)).trans ((List.getElem?_set_ne (by decide)).trans f_waivedAt)))) ((List.getElem?_set_ne (by decide)).trans ((List.getElem?_set_ne (by decide)).trans ((List.getElem?_set_ne (by decide)).trans ((List.getElem?_set_ne (by decide)).trans f_told)))) ht1 (by omega) (sv_w41 hnw c_72) d4 (fun hi f k0_ k1 k2 k3 k4 k5 => ?_) 4 0 hx _ rfl hw2 ((sv_updL_ne (by omega)).trans sv_updL_eq) sv_updL_eq (fun j hj => absurd hj (Nat.not_lt_zero j)) (fun q hq => (sv_updL_ne (by omega)).trans (sv_updL_ne (by omega))) (fun a _ => rfl)
                 refine v_aload_n dX13_waive_192 rfl 4 rfl ?_
                 refine v_getf 34 (ci := 11) (C := RX13) (T := TX13) (N := 71) rfl iwX13_waive_X13 (Nat.le_of_ble_eq_true rfl) (by decide +kernel) dX13_waive_193 (by first | with_reducible assumption | (with_reducible refine sv_us.trans ?_; exact rfl) | exact (k5 _ (by omega)).trans hm1 | exact (k5 _ (by omega)).trans ht1 | (repeat (first | with_reducible exact (k5 _ (by omega)).trans hm1 | with_reducible exact (k5 _ (by omega)).trans ht1 | with_reducible exact sv_us | with_reducible refine (sv_un (by omega)).trans ?_))) (by repeat (first | with_reducible assumption | (with_reducible refine (sv_ls (by first | omega | (simp only [List.length_set]; omega))).trans ?_; exact rfl) | with_reducible refine (List.getElem?_set_ne (by decide)).trans ?_)) ?_
                 refine v_bipush (v := 8) dX13_waive_196 (by decide) ?_
                 refine v_aload_n dX13_waive_198 rfl 4 rfl ?_
                 refine v_getf 33 (ci := 11) (C := RX13) (T := TX13) (N := 71) rfl iwX13_waive_X13 (Nat.le_of_ble_eq_true rfl) (by decide +kernel) dX13_waive_199 (by first | with_reducible assumption | (with_reducible refine sv_us.trans ?_; exact rfl) | exact (k5 _ (by omega)).trans hm1 | exact (k5 _ (by omega)).trans ht1 | (repeat (first | with_reducible exact (k5 _ (by omega)).trans hm1 | with_reducible exact (k5 _ (by omega)).trans ht1 | with_reducible exact sv_us | with_reducible refine (sv_un (by omega)).trans ?_))) (by repeat (first | with_reducible assumption | (with_reducible refine (sv_ls (by first | omega | (simp only [List.length_set]; omega))).trans ?_; exact rfl) | with_reducible refine (List.getElem?_set_ne (by decide)).trans ?_)) ?_
                 refine v_imul dX13_waive_202 ?_
                 refine v_bipush (v := 6) dX13_waive_203 (by decide) ?_
                 refine v_iadd dX13_waive_205 ?_
                 refine v_aload_n dX13_waive_206 rfl 4 rfl ?_
                 refine v_getf 27 (ci := 11) (C := RX13) (T := TX13) (N := 71) rfl iwX13_waive_X13 (Nat.le_of_ble_eq_true rfl) (by decide +kernel) dX13_waive_207 (by first | with_reducible assumption | (with_reducible refine sv_us.trans ?_; exact rfl) | exact (k5 _ (by omega)).trans hm1 | exact (k5 _ (by omega)).trans ht1 | (repeat (first | with_reducible exact (k5 _ (by omega)).trans hm1 | with_reducible exact (k5 _ (by omega)).trans ht1 | with_reducible exact sv_us | with_reducible refine (sv_un (by omega)).trans ?_))) (by repeat (first | with_reducible assumption | (with_reducible refine (sv_ls (by first | omega | (simp only [List.length_set]; omega))).trans ?_; exact rfl) | with_reducible refine (List.getElem?_set_ne (by decide)).trans ?_)) ?_
                 refine v_iload dX13_waive_210 1 rfl ?_
                 refine v_iconst (v := 4) dX13_waive_212 (by decide) ?_
                 refine v_iadd dX13_waive_213 ?_
                 refine v_laldS (v := ab_ds lq lr k0 2) dX13_waive_214 (by first | with_reducible assumption | (with_reducible refine sv_us.trans ?_; exact rfl) | exact (k5 _ (by omega)).trans hm1 | exact (k5 _ (by omega)).trans ht1 | (repeat (first | with_reducible exact (k5 _ (by omega)).trans hm1 | with_reducible exact (k5 _ (by omega)).trans ht1 | with_reducible exact sv_us | with_reducible refine (sv_un (by omega)).trans ?_))) (by rw [show (4 : Int32) = nI 4 from rfl, nI_add]; exact vp_in_nI (by omega) (by omega)) (by rw [show (4 : Int32) = nI 4 from rfl, nI_add, nI_clamp (by omega), d2]) ?_
                 refine v_last dX13_waive_215 (by first | with_reducible assumption | (with_reducible refine sv_us.trans ?_; exact rfl) | exact (k5 _ (by omega)).trans hm1 | exact (k5 _ (by omega)).trans ht1 | (repeat (first | with_reducible exact (k5 _ (by omega)).trans hm1 | with_reducible exact (k5 _ (by omega)).trans ht1 | with_reducible exact sv_us | with_reducible refine (sv_un (by omega)).trans ?_))) (by rw [show (6 : Int32) = nI 6 from rfl, sv_8b]; exact vp_in_nI (by have q9 := (sv_w41 hnw c_72); omega) (by omega)) ?_
                 refine v_aload_n dX13_waive_216 rfl 4 rfl ?_
                 refine v_getf 34 (ci := 11) (C := RX13) (T := TX13) (N := 71) rfl iwX13_waive_X13 (Nat.le_of_ble_eq_true rfl) (by decide +kernel) dX13_waive_217 (by first | with_reducible assumption | (with_reducible refine sv_us.trans ?_; exact rfl) | exact (k5 _ (by omega)).trans hm1 | exact (k5 _ (by omega)).trans ht1 | (repeat (first | with_reducible exact (k5 _ (by omega)).trans hm1 | with_reducible exact (k5 _ (by omega)).trans ht1 | with_reducible exact sv_us | with_reducible refine (sv_un (by omega)).trans ?_))) (by repeat (first | with_reducible assumption | (with_reducible refine (sv_ls (by first | omega | (simp only [List.length_set]; omega))).trans ?_; exact rfl) | with_reducible refine (List.getElem?_set_ne (by decide)).trans ?_)) ?_
                 refine v_bipush (v := 8) dX13_waive_220 (by decide) ?_
                 refine v_aload_n dX13_waive_222 rfl 4 rfl ?_
                 refine v_getf 33 (ci := 11) (C := RX13) (T := TX13) (N := 71) rfl iwX13_waive_X13 (Nat.le_of_ble_eq_true rfl) (by decide +kernel) dX13_waive_223 (by first | with_reducible assumption | (with_reducible refine sv_us.trans ?_; exact rfl) | exact (k5 _ (by omega)).trans hm1 | exact (k5 _ (by omega)).trans ht1 | (repeat (first | with_reducible exact (k5 _ (by omega)).trans hm1 | with_reducible exact (k5 _ (by omega)).trans ht1 | with_reducible exact sv_us | with_reducible refine (sv_un (by omega)).trans ?_))) (by repeat (first | with_reducible assumption | (with_reducible refine (sv_ls (by first | omega | (simp only [List.length_set]; omega))).trans ?_; exact rfl) | with_reducible refine (List.getElem?_set_ne (by decide)).trans ?_)) ?_
                 refine v_imul dX13_waive_226 ?_
                 refine v_bipush (v := 7) dX13_waive_227 (by decide) ?_
                 refine v_iadd dX13_waive_229 ?_
                 refine v_aload_n dX13_waive_230 rfl 4 rfl ?_
                 refine v_getf 27 (ci := 11) (C := RX13) (T := TX13) (N := 71) rfl iwX13_waive_X13 (Nat.le_of_ble_eq_true rfl) (by decide +kernel) dX13_waive_231 (by first | with_reducible assumption | (with_reducible refine sv_us.trans ?_; exact rfl) | exact (k5 _ (by omega)).trans hm1 | exact (k5 _ (by omega)).trans ht1 | (repeat (first | with_reducible exact (k5 _ (by omega)).trans hm1 | with_reducible exact (k5 _ (by omega)).trans ht1 | with_reducible exact sv_us | with_reducible refine (sv_un (by omega)).trans ?_))) (by repeat (first | with_reducible assumption | (with_reducible refine (sv_ls (by first | omega | (simp only [List.length_set]; omega))).trans ?_; exact rfl) | with_reducible refine (List.getElem?_set_ne (by decide)).trans ?_)) ?_
                 refine v_iload dX13_waive_234 1 rfl ?_
                 refine v_iconst (v := 5) dX13_waive_236 (by decide) ?_
                 refine v_iadd dX13_waive_237 ?_
                 refine v_laldS (v := ab_ds lq lr k0 3) dX13_waive_238 (by first | with_reducible assumption | (with_reducible refine sv_us.trans ?_; exact rfl) | exact (k5 _ (by omega)).trans hm1 | exact (k5 _ (by omega)).trans ht1 | (repeat (first | with_reducible exact (k5 _ (by omega)).trans hm1 | with_reducible exact (k5 _ (by omega)).trans ht1 | with_reducible exact sv_us | with_reducible refine (sv_un (by omega)).trans ?_))) (by rw [show (5 : Int32) = nI 5 from rfl, nI_add]; exact vp_in_nI (by omega) (by omega)) (by rw [show (5 : Int32) = nI 5 from rfl, nI_add, nI_clamp (by omega), d3]) ?_
                 refine v_last dX13_waive_239 (by first | with_reducible assumption | (with_reducible refine sv_us.trans ?_; exact rfl) | exact (k5 _ (by omega)).trans hm1 | exact (k5 _ (by omega)).trans ht1 | (repeat (first | with_reducible exact (k5 _ (by omega)).trans hm1 | with_reducible exact (k5 _ (by omega)).trans ht1 | with_reducible exact sv_us | with_reducible refine (sv_un (by omega)).trans ?_))) (by rw [show (7 : Int32) = nI 7 from rfl, sv_8b]; exact vp_in_nI (by have q9 := (sv_w41 hnw c_72); omega) (by omega)) ?_
                 refine v_aload_n dX13_waive_240 rfl 4 rfl ?_
                 refine v_dup dX13_waive_241 rfl ?_
                 refine v_getf 33 (ci := 11) (C := RX13) (T := TX13) (N := 71) rfl iwX13_waive_X13 (Nat.le_of_ble_eq_true rfl) (by decide +kernel) dX13_waive_242 (by first | with_reducible assumption | (with_reducible refine sv_us.trans ?_; exact rfl) | exact (k5 _ (by omega)).trans hm1 | exact (k5 _ (by omega)).trans ht1 | (repeat (first | with_reducible exact (k5 _ (by omega)).trans hm1 | with_reducible exact (k5 _ (by omega)).trans ht1 | with_reducible exact sv_us | with_reducible refine (sv_un (by omega)).trans ?_))) (by repeat (first | with_reducible assumption | (with_reducible refine (sv_ls (by first | omega | (simp only [List.length_set]; omega))).trans ?_; exact rfl) | with_reducible refine (List.getElem?_set_ne (by decide)).trans ?_)) ?_
                 refine v_iconst (v := 1) dX13_waive_245 (by decide) ?_
                 refine v_iadd dX13_waive_246 ?_
                 refine v_putf 33 (fs' := _) (ci := 11) (C := RX13) (T := TX13) (N := 71) (ty := .int) rfl iwX13_waive_X13 tyX13 tyX13_ok nmX13 (Nat.le_of_ble_eq_true rfl) (by decide +kernel) rfl rfl dX13_waive_247 rfl rfl (by first | with_reducible assumption | (with_reducible refine sv_us.trans ?_; exact rfl) | exact (k5 _ (by omega)).trans hm1 | exact (k5 _ (by omega)).trans ht1 | (repeat (first | with_reducible exact (k5 _ (by omega)).trans hm1 | with_reducible exact (k5 _ (by omega)).trans ht1 | with_reducible exact sv_us | with_reducible refine (sv_un (by omega)).trans ?_))) (by first | omega | (simp only [List.length_set]; omega)) rfl ?_
                 refine v_iconst (v := 1) dX13_waive_250 (by decide) ?_
                 exact v_iret rfl dX13_waive_251 (Nat.le_of_ble_eq_true rfl) (Nat.le_of_ble_eq_true rfl) rfl (by
                       rw [show ((8 : Int32) * nI nw + 6).toNatClampNeg = 8 * nw + 6 by rw [show (6 : Int32) = nI 6 from rfl, sv_8b, nI_clamp (by omega)], show ((8 : Int32) * nI nw + 7).toNatClampNeg = 8 * nw + 7 by rw [show (7 : Int32) = nI 7 from rfl, sv_8b, nI_clamp (by omega)]]
                       exact ⟨rfl, _, sv_us, Or.inr (Or.inr ⟨(hw9.resolve_left (fun q => by rw [q.1] at c_63; exact absurd c_63 (by decide))).2, (sv_w41 hnw c_72), rfl, (List.getElem?_set_ne (by decide)).trans (sv_ls (by simp only [List.length_set]; omega)), (by rw [nI_1]; exact ((((gfs.code (.int 0)).rule lq).rule r0).code (.int 0)).waived (nw + 1)), ⟨_, (sv_un (by omega)).trans sv_us, sv_wfin k1 k2 k3 k4 hwr⟩, (fun a q1 q2 => (sv_un q1).trans ((sv_un q2).trans ((sv_un q2).trans ((k5 a q2).trans (hfr1 a q1 q2)))))⟩)⟩))
            · refine v_iconst (v := 0) dX13_waive_94 (by decide) ?_
              exact v_iret rfl dX13_waive_95 (Nat.le_of_ble_eq_true rfl) (Nat.le_of_ble_eq_true rfl) rfl (by first | exact absurd c_87 (by decide) | exact absurd c_63 c_91 | exact ⟨rfl, _, sv_us, Or.inl ⟨(hw9.resolve_right (fun q => c_63 q.1)).2, rfl, sv_ls (by simp only [List.length_set]; omega), (((gfs.code (.int 0)).rule lq).rule r0).code (.int 0), (fun a q1 => by repeat (first | with_reducible rfl | with_reducible refine (sv_un q1).trans ?_))⟩⟩ | exact ⟨rfl, _, sv_us, Or.inr (Or.inl ⟨(hw9.resolve_left (fun q => by rw [q.1] at c_63; exact absurd c_63 (by decide))).2, sv_w42 hnw c_72, rfl, sv_ls (by simp only [List.length_set]; omega), (((gfs.code (.int 0)).rule lq).rule r0).code (.int 2), (fun a q1 => by repeat (first | with_reducible rfl | with_reducible refine (sv_un q1).trans ?_))⟩)⟩)
        · refine v_aload_n dX13_waive_66 rfl 2 rfl ?_
          refine v_getf 33 (ci := 11) (C := RX13) (T := TX13) (N := 71) rfl iwX13_waive_X13 (Nat.le_of_ble_eq_true rfl) (by decide +kernel) dX13_waive_67 (by repeat (first | (with_reducible refine sv_us.trans ?_; exact rfl) | with_reducible assumption | with_reducible refine (sv_un (by omega)).trans ?_)) (by repeat (first | with_reducible assumption | (with_reducible refine (sv_ls (by first | omega | (simp only [List.length_set]; omega))).trans ?_; exact rfl) | with_reducible refine (List.getElem?_set_ne (by decide)).trans ?_)) ?_
          refine v_bipush (v := 40) dX13_waive_70 (by decide) ?_
          refine v_icmp_ne (tgt := 79) dX13_waive_72 (by decide) (fun c_72 => ?_) (fun c_72 => ?_)
          · refine v_iconst (v := 0) dX13_waive_79 (by decide) ?_
            refine v_putf 0 (fs' := _) (ci := 11) (C := RX13) (T := TX13) (N := 71) (ty := .int) rfl iwX13_waive_X13 tyX13 tyX13_ok nmX13 (Nat.le_of_ble_eq_true rfl) (by decide +kernel) rfl rfl dX13_waive_80 rfl rfl (by repeat (first | (with_reducible refine sv_us.trans ?_; exact rfl) | with_reducible assumption | with_reducible refine (sv_un (by omega)).trans ?_)) (by first | omega | (simp only [List.length_set]; omega)) rfl ?_
            refine v_aload_n dX13_waive_83 rfl 2 rfl ?_
            refine v_getf 0 (ci := 11) (C := RX13) (T := TX13) (N := 71) rfl iwX13_waive_X13 (Nat.le_of_ble_eq_true rfl) (by decide +kernel) dX13_waive_84 (by repeat (first | (with_reducible refine sv_us.trans ?_; exact rfl) | with_reducible assumption | with_reducible refine (sv_un (by omega)).trans ?_)) (by repeat (first | with_reducible assumption | (with_reducible refine (sv_ls (by first | omega | (simp only [List.length_set]; omega))).trans ?_; exact rfl) | with_reducible refine (List.getElem?_set_ne (by decide)).trans ?_)) ?_
            refine v_if_gt (tgt := 94) dX13_waive_87 (by decide) (fun c_87 => ?_) (fun c_87 => ?_)
            · refine v_iconst (v := 0) dX13_waive_94 (by decide) ?_
              exact v_iret rfl dX13_waive_95 (Nat.le_of_ble_eq_true rfl) (Nat.le_of_ble_eq_true rfl) rfl (by first | exact absurd c_87 (by decide) | exact absurd c_63 c_91 | exact ⟨rfl, _, sv_us, Or.inl ⟨(hw9.resolve_right (fun q => c_63 q.1)).2, rfl, sv_ls (by simp only [List.length_set]; omega), (((gfs.code (.int 0)).rule lq).rule r0).code (.int 0), (fun a q1 => by repeat (first | with_reducible rfl | with_reducible refine (sv_un q1).trans ?_))⟩⟩ | exact ⟨rfl, _, sv_us, Or.inr (Or.inl ⟨(hw9.resolve_left (fun q => by rw [q.1] at c_63; exact absurd c_63 (by decide))).2, sv_w42 hnw c_72, rfl, sv_ls (by simp only [List.length_set]; omega), (((gfs.code (.int 0)).rule lq).rule r0).code (.int 2), (fun a q1 => by repeat (first | with_reducible rfl | with_reducible refine (sv_un q1).trans ?_))⟩)⟩)
            · refine v_iload_n dX13_waive_90 rfl 0 rfl ?_
              refine v_if_eq (tgt := 96) dX13_waive_91 (by decide) (fun c_91 => ?_) (fun c_91 => ?_)
              · refine v_sipush (v := 18024) dX13_waive_96 (by decide) ?_
                refine v_bipush (v := 12) dX13_waive_99 (by decide) ?_
                refine v_iload_n dX13_waive_101 rfl 3 rfl ?_
                refine v_imul dX13_waive_102 ?_
                refine v_iadd dX13_waive_103 ?_
                rw [sv_12c]
                refine v_istore (L' := [(4, _), (3, _), (2, _), (0, _), (1, _)]) dX13_waive_104 (Nat.le_of_ble_eq_true rfl) rfl ?_
                refine v_aload_n dX13_waive_106 rfl 3 rfl ?_
                refine v_getf 34 (ci := 11) (C := RX13) (T := TX13) (N := 71) rfl iwX13_waive_X13 (Nat.le_of_ble_eq_true rfl) (by decide +kernel) dX13_waive_107 (by repeat (first | (with_reducible refine sv_us.trans ?_; exact rfl) | with_reducible assumption | with_reducible refine (sv_un (by omega)).trans ?_)) (by repeat (first | with_reducible assumption | (with_reducible refine (sv_ls (by first | omega | (simp only [List.length_set]; omega))).trans ?_; exact rfl) | with_reducible refine (List.getElem?_set_ne (by decide)).trans ?_)) ?_
                refine v_bipush (v := 8) dX13_waive_110 (by decide) ?_
                refine v_aload_n dX13_waive_112 rfl 3 rfl ?_
                refine v_getf 33 (ci := 11) (C := RX13) (T := TX13) (N := 71) rfl iwX13_waive_X13 (Nat.le_of_ble_eq_true rfl) (by decide +kernel) dX13_waive_113 (by repeat (first | (with_reducible refine sv_us.trans ?_; exact rfl) | with_reducible assumption | with_reducible refine (sv_un (by omega)).trans ?_)) (by repeat (first | with_reducible assumption | (with_reducible refine (sv_ls (by first | omega | (simp only [List.length_set]; omega))).trans ?_; exact rfl) | with_reducible refine (List.getElem?_set_ne (by decide)).trans ?_)) ?_
                refine v_imul dX13_waive_116 ?_
                refine v_aload_n dX13_waive_117 rfl 3 rfl ?_
                refine v_getf 31 (ci := 11) (C := RX13) (T := TX13) (N := 71) rfl iwX13_waive_X13 (Nat.le_of_ble_eq_true rfl) (by decide +kernel) dX13_waive_118 (by repeat (first | (with_reducible refine sv_us.trans ?_; exact rfl) | with_reducible assumption | with_reducible refine (sv_un (by omega)).trans ?_)) (by repeat (first | with_reducible assumption | (with_reducible refine (sv_ls (by first | omega | (simp only [List.length_set]; omega))).trans ?_; exact rfl) | with_reducible refine (List.getElem?_set_ne (by decide)).trans ?_)) ?_
                refine v_i2l dX13_waive_121 rfl ?_
                refine v_last dX13_waive_122 (by repeat (first | (with_reducible refine sv_us.trans ?_; exact rfl) | with_reducible assumption | with_reducible refine (sv_un (by omega)).trans ?_)) (by rw [sv_8c]; exact vp_in_nI (by first | (have q9 := sv_w41 hnw c_72; omega) | exact absurd c_91 c_63 | exact absurd (by decide) c_87) (by omega)) ?_
                refine v_aload_n dX13_waive_123 rfl 3 rfl ?_
                refine v_getf 34 (ci := 11) (C := RX13) (T := TX13) (N := 71) rfl iwX13_waive_X13 (Nat.le_of_ble_eq_true rfl) (by decide +kernel) dX13_waive_124 (by repeat (first | (with_reducible refine sv_us.trans ?_; exact rfl) | with_reducible assumption | with_reducible refine (sv_un (by omega)).trans ?_)) (by repeat (first | with_reducible assumption | (with_reducible refine (sv_ls (by first | omega | (simp only [List.length_set]; omega))).trans ?_; exact rfl) | with_reducible refine (List.getElem?_set_ne (by decide)).trans ?_)) ?_
                refine v_bipush (v := 8) dX13_waive_127 (by decide) ?_
                refine v_aload_n dX13_waive_129 rfl 3 rfl ?_
                refine v_getf 33 (ci := 11) (C := RX13) (T := TX13) (N := 71) rfl iwX13_waive_X13 (Nat.le_of_ble_eq_true rfl) (by decide +kernel) dX13_waive_130 (by repeat (first | (with_reducible refine sv_us.trans ?_; exact rfl) | with_reducible assumption | with_reducible refine (sv_un (by omega)).trans ?_)) (by repeat (first | with_reducible assumption | (with_reducible refine (sv_ls (by first | omega | (simp only [List.length_set]; omega))).trans ?_; exact rfl) | with_reducible refine (List.getElem?_set_ne (by decide)).trans ?_)) ?_
                refine v_imul dX13_waive_133 ?_
                refine v_iconst (v := 1) dX13_waive_134 (by decide) ?_
                refine v_iadd dX13_waive_135 ?_
                refine v_aload_n dX13_waive_136 rfl 3 rfl ?_
                refine v_getf 27 (ci := 11) (C := RX13) (T := TX13) (N := 71) rfl iwX13_waive_X13 (Nat.le_of_ble_eq_true rfl) (by decide +kernel) dX13_waive_137 (by repeat (first | (with_reducible refine sv_us.trans ?_; exact rfl) | with_reducible assumption | with_reducible refine (sv_un (by omega)).trans ?_)) (by repeat (first | with_reducible assumption | (with_reducible refine (sv_ls (by first | omega | (simp only [List.length_set]; omega))).trans ?_; exact rfl) | with_reducible refine (List.getElem?_set_ne (by decide)).trans ?_)) ?_
                refine v_iload dX13_waive_140 0 rfl ?_
                refine v_bipush (v := 7) dX13_waive_142 (by decide) ?_
                refine v_iadd dX13_waive_144 ?_
                refine v_laldS (v := ab_ds lq lr k0 1) dX13_waive_145 (by repeat (first | (with_reducible refine sv_us.trans ?_; exact rfl) | with_reducible assumption | with_reducible refine (sv_un (by omega)).trans ?_)) (by rw [show (7 : Int32) = nI 7 from rfl, nI_add]; exact vp_in_nI (by omega) (by omega)) (by rw [show (7 : Int32) = nI 7 from rfl, nI_add, nI_clamp (by omega), d1]) ?_
                refine v_last dX13_waive_146 (by repeat (first | (with_reducible refine sv_us.trans ?_; exact rfl) | with_reducible assumption | with_reducible refine (sv_un (by omega)).trans ?_)) (by rw [show (1 : Int32) = nI 1 from rfl, sv_8b]; exact vp_in_nI (by first | (have q9 := sv_w41 hnw c_72; omega) | exact absurd c_91 c_63 | exact absurd (by decide) c_87) (by omega)) ?_
                refine v_iconst (v := 0) dX13_waive_147 (by decide) ?_
                refine v_istore (L' := [(5, _), (4, _), (3, _), (2, _), (0, _), (1, _)]) dX13_waive_148 (Nat.le_of_ble_eq_true rfl) rfl ?_
                refine v_sub (L' := [(5, _), (4, _), (3, _), (2, _), (0, _), (1, _)]) [0, 1, 2, 3, 4, 5] rfl ?_
                first
                | exact absurd c_91 c_63
                | exact absurd (by decide) c_87
                | (refine v_nameh (fun hx ehx => ?_)
                   have hm1 : hx (b + 220) = some (.inr (11, ((((fs.set 0 (.int 0)).set 58 (.int lq)).set 58 (.int r0)).set 0 (.int 0)))) := by rw [ehx]; exact (by repeat (first | with_reducible assumption | with_reducible exact sv_us | with_reducible refine (sv_un (by omega)).trans ?_))
                   have ht1 : ab_J G hx (b + 241) 36048 tf := by rw [ehx]; exact (by repeat (first | with_reducible assumption | with_reducible exact sv_us | with_reducible refine (sv_un (by omega)).trans ?_))
                   have hfr1 : ∀ a, a ≠ b + 220 → a ≠ b + 242 → hx a = h a := by
                     intro a q1 q2
                     rw [ehx]
                     repeat (first | with_reducible rfl | with_reducible refine (sv_un (by assumption)).trans ?_)
                   have hw2 : ab_J G hx (b + 242) 320 (vp_updL (vp_updL wf (8 * nw) lq.toInt64) (8 * nw + 1) (ab_ds lq lr k0 1)) := by
                     rw [ehx, show ((8 : Int32) * nI nw).toNatClampNeg = 8 * nw by rw [sv_8c, nI_clamp (by omega)], show ((8 : Int32) * nI nw + 1).toNatClampNeg = 8 * nw + 1 by rw [show (1 : Int32) = nI 1 from rfl, sv_8b, nI_clamp (by omega)]]
                     exact sv_us
                   clear ehx
                   refine l_waivem G _ hx _ b k0 nw _ _ (ab_ds lq lr k0) tf wf ((((fs.set 0 (.int 0)).set 58 (.int lq)).set 58 (.int r0)).set 0 (.int 0)) (by simp only [List.length_set]; exact hlen) hm1 ((List.getElem?_set_ne (by decide)).trans ((List.getElem?_set_ne (by decide)).trans ((List.getElem?_set_ne (by decide)).trans ((List.getElem?_set_ne (by decide)).trans f_waived)))) ((List.getElem?_set_ne (by decide)).trans ((List.getElem?_set_ne (by decide)).trans ((List.getElem?_set_ne (by decide)).trans ((List.getElem?_set_ne (by decide)).trans f_waivedAt)))) ((List.getElem?_set_ne (by decide)).trans ((List.getElem?_set_ne (by decide)).trans ((List.getElem?_set_ne (by decide)).trans ((List.getElem?_set_ne (by decide)).trans f_told)))) ht1 (by omega) (sv_w41 hnw c_72) d4 (fun hi f k0_ k1 k2 k3 k4 k5 => ?_) 4 0 hx _ rfl hw2 ((sv_updL_ne (by omega)).trans sv_updL_eq) sv_updL_eq (fun j hj => absurd hj (Nat.not_lt_zero j)) (fun q hq => (sv_updL_ne (by omega)).trans (sv_updL_ne (by omega))) (fun a _ => rfl)
                   refine v_aload_n dX13_waive_192 rfl 4 rfl ?_
                   refine v_getf 34 (ci := 11) (C := RX13) (T := TX13) (N := 71) rfl iwX13_waive_X13 (Nat.le_of_ble_eq_true rfl) (by decide +kernel) dX13_waive_193 (by first | with_reducible assumption | (with_reducible refine sv_us.trans ?_; exact rfl) | exact (k5 _ (by omega)).trans hm1 | exact (k5 _ (by omega)).trans ht1 | (repeat (first | with_reducible exact (k5 _ (by omega)).trans hm1 | with_reducible exact (k5 _ (by omega)).trans ht1 | with_reducible exact sv_us | with_reducible refine (sv_un (by omega)).trans ?_))) (by repeat (first | with_reducible assumption | (with_reducible refine (sv_ls (by first | omega | (simp only [List.length_set]; omega))).trans ?_; exact rfl) | with_reducible refine (List.getElem?_set_ne (by decide)).trans ?_)) ?_
                   refine v_bipush (v := 8) dX13_waive_196 (by decide) ?_
                   refine v_aload_n dX13_waive_198 rfl 4 rfl ?_
                   refine v_getf 33 (ci := 11) (C := RX13) (T := TX13) (N := 71) rfl iwX13_waive_X13 (Nat.le_of_ble_eq_true rfl) (by decide +kernel) dX13_waive_199 (by first | with_reducible assumption | (with_reducible refine sv_us.trans ?_; exact rfl) | exact (k5 _ (by omega)).trans hm1 | exact (k5 _ (by omega)).trans ht1 | (repeat (first | with_reducible exact (k5 _ (by omega)).trans hm1 | with_reducible exact (k5 _ (by omega)).trans ht1 | with_reducible exact sv_us | with_reducible refine (sv_un (by omega)).trans ?_))) (by repeat (first | with_reducible assumption | (with_reducible refine (sv_ls (by first | omega | (simp only [List.length_set]; omega))).trans ?_; exact rfl) | with_reducible refine (List.getElem?_set_ne (by decide)).trans ?_)) ?_
                   refine v_imul dX13_waive_202 ?_
                   refine v_bipush (v := 6) dX13_waive_203 (by decide) ?_
                   refine v_iadd dX13_waive_205 ?_
                   refine v_aload_n dX13_waive_206 rfl 4 rfl ?_
                   refine v_getf 27 (ci := 11) (C := RX13) (T := TX13) (N := 71) rfl iwX13_waive_X13 (Nat.le_of_ble_eq_true rfl) (by decide +kernel) dX13_waive_207 (by first | with_reducible assumption | (with_reducible refine sv_us.trans ?_; exact rfl) | exact (k5 _ (by omega)).trans hm1 | exact (k5 _ (by omega)).trans ht1 | (repeat (first | with_reducible exact (k5 _ (by omega)).trans hm1 | with_reducible exact (k5 _ (by omega)).trans ht1 | with_reducible exact sv_us | with_reducible refine (sv_un (by omega)).trans ?_))) (by repeat (first | with_reducible assumption | (with_reducible refine (sv_ls (by first | omega | (simp only [List.length_set]; omega))).trans ?_; exact rfl) | with_reducible refine (List.getElem?_set_ne (by decide)).trans ?_)) ?_
                   refine v_iload dX13_waive_210 1 rfl ?_
                   refine v_iconst (v := 4) dX13_waive_212 (by decide) ?_
                   refine v_iadd dX13_waive_213 ?_
                   refine v_laldS (v := ab_ds lq lr k0 2) dX13_waive_214 (by first | with_reducible assumption | (with_reducible refine sv_us.trans ?_; exact rfl) | exact (k5 _ (by omega)).trans hm1 | exact (k5 _ (by omega)).trans ht1 | (repeat (first | with_reducible exact (k5 _ (by omega)).trans hm1 | with_reducible exact (k5 _ (by omega)).trans ht1 | with_reducible exact sv_us | with_reducible refine (sv_un (by omega)).trans ?_))) (by rw [show (4 : Int32) = nI 4 from rfl, nI_add]; exact vp_in_nI (by omega) (by omega)) (by rw [show (4 : Int32) = nI 4 from rfl, nI_add, nI_clamp (by omega), d2]) ?_
                   refine v_last dX13_waive_215 (by first | with_reducible assumption | (with_reducible refine sv_us.trans ?_; exact rfl) | exact (k5 _ (by omega)).trans hm1 | exact (k5 _ (by omega)).trans ht1 | (repeat (first | with_reducible exact (k5 _ (by omega)).trans hm1 | with_reducible exact (k5 _ (by omega)).trans ht1 | with_reducible exact sv_us | with_reducible refine (sv_un (by omega)).trans ?_))) (by rw [show (6 : Int32) = nI 6 from rfl, sv_8b]; exact vp_in_nI (by have q9 := (sv_w41 hnw c_72); omega) (by omega)) ?_
                   refine v_aload_n dX13_waive_216 rfl 4 rfl ?_
                   refine v_getf 34 (ci := 11) (C := RX13) (T := TX13) (N := 71) rfl iwX13_waive_X13 (Nat.le_of_ble_eq_true rfl) (by decide +kernel) dX13_waive_217 (by first | with_reducible assumption | (with_reducible refine sv_us.trans ?_; exact rfl) | exact (k5 _ (by omega)).trans hm1 | exact (k5 _ (by omega)).trans ht1 | (repeat (first | with_reducible exact (k5 _ (by omega)).trans hm1 | with_reducible exact (k5 _ (by omega)).trans ht1 | with_reducible exact sv_us | with_reducible refine (sv_un (by omega)).trans ?_))) (by repeat (first | with_reducible assumption | (with_reducible refine (sv_ls (by first | omega | (simp only [List.length_set]; omega))).trans ?_; exact rfl) | with_reducible refine (List.getElem?_set_ne (by decide)).trans ?_)) ?_
                   refine v_bipush (v := 8) dX13_waive_220 (by decide) ?_
                   refine v_aload_n dX13_waive_222 rfl 4 rfl ?_
                   refine v_getf 33 (ci := 11) (C := RX13) (T := TX13) (N := 71) rfl iwX13_waive_X13 (Nat.le_of_ble_eq_true rfl) (by decide +kernel) dX13_waive_223 (by first | with_reducible assumption | (with_reducible refine sv_us.trans ?_; exact rfl) | exact (k5 _ (by omega)).trans hm1 | exact (k5 _ (by omega)).trans ht1 | (repeat (first | with_reducible exact (k5 _ (by omega)).trans hm1 | with_reducible exact (k5 _ (by omega)).trans ht1 | with_reducible exact sv_us | with_reducible refine (sv_un (by omega)).trans ?_))) (by repeat (first | with_reducible assumption | (with_reducible refine (sv_ls (by first | omega | (simp only [List.length_set]; omega))).trans ?_; exact rfl) | with_reducible refine (List.getElem?_set_ne (by decide)).trans ?_)) ?_
                   refine v_imul dX13_waive_226 ?_
                   refine v_bipush (v := 7) dX13_waive_227 (by decide) ?_
                   refine v_iadd dX13_waive_229 ?_
                   refine v_aload_n dX13_waive_230 rfl 4 rfl ?_
                   refine v_getf 27 (ci := 11) (C := RX13) (T := TX13) (N := 71) rfl iwX13_waive_X13 (Nat.le_of_ble_eq_true rfl) (by decide +kernel) dX13_waive_231 (by first | with_reducible assumption | (with_reducible refine sv_us.trans ?_; exact rfl) | exact (k5 _ (by omega)).trans hm1 | exact (k5 _ (by omega)).trans ht1 | (repeat (first | with_reducible exact (k5 _ (by omega)).trans hm1 | with_reducible exact (k5 _ (by omega)).trans ht1 | with_reducible exact sv_us | with_reducible refine (sv_un (by omega)).trans ?_))) (by repeat (first | with_reducible assumption | (with_reducible refine (sv_ls (by first | omega | (simp only [List.length_set]; omega))).trans ?_; exact rfl) | with_reducible refine (List.getElem?_set_ne (by decide)).trans ?_)) ?_
                   refine v_iload dX13_waive_234 1 rfl ?_
                   refine v_iconst (v := 5) dX13_waive_236 (by decide) ?_
                   refine v_iadd dX13_waive_237 ?_
                   refine v_laldS (v := ab_ds lq lr k0 3) dX13_waive_238 (by first | with_reducible assumption | (with_reducible refine sv_us.trans ?_; exact rfl) | exact (k5 _ (by omega)).trans hm1 | exact (k5 _ (by omega)).trans ht1 | (repeat (first | with_reducible exact (k5 _ (by omega)).trans hm1 | with_reducible exact (k5 _ (by omega)).trans ht1 | with_reducible exact sv_us | with_reducible refine (sv_un (by omega)).trans ?_))) (by rw [show (5 : Int32) = nI 5 from rfl, nI_add]; exact vp_in_nI (by omega) (by omega)) (by rw [show (5 : Int32) = nI 5 from rfl, nI_add, nI_clamp (by omega), d3]) ?_
                   refine v_last dX13_waive_239 (by first | with_reducible assumption | (with_reducible refine sv_us.trans ?_; exact rfl) | exact (k5 _ (by omega)).trans hm1 | exact (k5 _ (by omega)).trans ht1 | (repeat (first | with_reducible exact (k5 _ (by omega)).trans hm1 | with_reducible exact (k5 _ (by omega)).trans ht1 | with_reducible exact sv_us | with_reducible refine (sv_un (by omega)).trans ?_))) (by rw [show (7 : Int32) = nI 7 from rfl, sv_8b]; exact vp_in_nI (by have q9 := (sv_w41 hnw c_72); omega) (by omega)) ?_
                   refine v_aload_n dX13_waive_240 rfl 4 rfl ?_
                   refine v_dup dX13_waive_241 rfl ?_
                   refine v_getf 33 (ci := 11) (C := RX13) (T := TX13) (N := 71) rfl iwX13_waive_X13 (Nat.le_of_ble_eq_true rfl) (by decide +kernel) dX13_waive_242 (by first | with_reducible assumption | (with_reducible refine sv_us.trans ?_; exact rfl) | exact (k5 _ (by omega)).trans hm1 | exact (k5 _ (by omega)).trans ht1 | (repeat (first | with_reducible exact (k5 _ (by omega)).trans hm1 | with_reducible exact (k5 _ (by omega)).trans ht1 | with_reducible exact sv_us | with_reducible refine (sv_un (by omega)).trans ?_))) (by repeat (first | with_reducible assumption | (with_reducible refine (sv_ls (by first | omega | (simp only [List.length_set]; omega))).trans ?_; exact rfl) | with_reducible refine (List.getElem?_set_ne (by decide)).trans ?_)) ?_
                   refine v_iconst (v := 1) dX13_waive_245 (by decide) ?_
                   refine v_iadd dX13_waive_246 ?_
                   refine v_putf 33 (fs' := _) (ci := 11) (C := RX13) (T := TX13) (N := 71) (ty := .int) rfl iwX13_waive_X13 tyX13 tyX13_ok nmX13 (Nat.le_of_ble_eq_true rfl) (by decide +kernel) rfl rfl dX13_waive_247 rfl rfl (by first | with_reducible assumption | (with_reducible refine sv_us.trans ?_; exact rfl) | exact (k5 _ (by omega)).trans hm1 | exact (k5 _ (by omega)).trans ht1 | (repeat (first | with_reducible exact (k5 _ (by omega)).trans hm1 | with_reducible exact (k5 _ (by omega)).trans ht1 | with_reducible exact sv_us | with_reducible refine (sv_un (by omega)).trans ?_))) (by first | omega | (simp only [List.length_set]; omega)) rfl ?_
                   refine v_iconst (v := 1) dX13_waive_250 (by decide) ?_
                   exact v_iret rfl dX13_waive_251 (Nat.le_of_ble_eq_true rfl) (Nat.le_of_ble_eq_true rfl) rfl (by
                         rw [show ((8 : Int32) * nI nw + 6).toNatClampNeg = 8 * nw + 6 by rw [show (6 : Int32) = nI 6 from rfl, sv_8b, nI_clamp (by omega)], show ((8 : Int32) * nI nw + 7).toNatClampNeg = 8 * nw + 7 by rw [show (7 : Int32) = nI 7 from rfl, sv_8b, nI_clamp (by omega)]]
                         exact ⟨rfl, _, sv_us, Or.inr (Or.inr ⟨(hw9.resolve_left (fun q => by rw [q.1] at c_63; exact absurd c_63 (by decide))).2, (sv_w41 hnw c_72), rfl, (List.getElem?_set_ne (by decide)).trans (sv_ls (by simp only [List.length_set]; omega)), (by rw [nI_1]; exact ((((gfs.code (.int 0)).rule lq).rule r0).code (.int 0)).waived (nw + 1)), ⟨_, (sv_un (by omega)).trans sv_us, sv_wfin k1 k2 k3 k4 hwr⟩, (fun a q1 q2 => (sv_un q1).trans ((sv_un q2).trans ((sv_un q2).trans ((k5 a q2).trans (hfr1 a q1 q2)))))⟩)⟩))
              · refine v_iconst (v := 0) dX13_waive_94 (by decide) ?_
                exact v_iret rfl dX13_waive_95 (Nat.le_of_ble_eq_true rfl) (Nat.le_of_ble_eq_true rfl) rfl (by first | exact absurd c_87 (by decide) | exact absurd c_63 c_91 | exact ⟨rfl, _, sv_us, Or.inl ⟨(hw9.resolve_right (fun q => c_63 q.1)).2, rfl, sv_ls (by simp only [List.length_set]; omega), (((gfs.code (.int 0)).rule lq).rule r0).code (.int 0), (fun a q1 => by repeat (first | with_reducible rfl | with_reducible refine (sv_un q1).trans ?_))⟩⟩ | exact ⟨rfl, _, sv_us, Or.inr (Or.inl ⟨(hw9.resolve_left (fun q => by rw [q.1] at c_63; exact absurd c_63 (by decide))).2, sv_w42 hnw c_72, rfl, sv_ls (by simp only [List.length_set]; omega), (((gfs.code (.int 0)).rule lq).rule r0).code (.int 2), (fun a q1 => by repeat (first | with_reducible rfl | with_reducible refine (sv_un q1).trans ?_))⟩)⟩)
          · refine v_iconst (v := 2) dX13_waive_75 (by decide) ?_
            refine v_goto (tgt := 80) dX13_waive_76 (by decide) ?_
            refine v_putf 0 (fs' := _) (ci := 11) (C := RX13) (T := TX13) (N := 71) (ty := .int) rfl iwX13_waive_X13 tyX13 tyX13_ok nmX13 (Nat.le_of_ble_eq_true rfl) (by decide +kernel) rfl rfl dX13_waive_80 rfl rfl (by repeat (first | (with_reducible refine sv_us.trans ?_; exact rfl) | with_reducible assumption | with_reducible refine (sv_un (by omega)).trans ?_)) (by first | omega | (simp only [List.length_set]; omega)) rfl ?_
            refine v_aload_n dX13_waive_83 rfl 2 rfl ?_
            refine v_getf 0 (ci := 11) (C := RX13) (T := TX13) (N := 71) rfl iwX13_waive_X13 (Nat.le_of_ble_eq_true rfl) (by decide +kernel) dX13_waive_84 (by repeat (first | (with_reducible refine sv_us.trans ?_; exact rfl) | with_reducible assumption | with_reducible refine (sv_un (by omega)).trans ?_)) (by repeat (first | with_reducible assumption | (with_reducible refine (sv_ls (by first | omega | (simp only [List.length_set]; omega))).trans ?_; exact rfl) | with_reducible refine (List.getElem?_set_ne (by decide)).trans ?_)) ?_
            refine v_if_gt (tgt := 94) dX13_waive_87 (by decide) (fun c_87 => ?_) (fun c_87 => ?_)
            · refine v_iconst (v := 0) dX13_waive_94 (by decide) ?_
              exact v_iret rfl dX13_waive_95 (Nat.le_of_ble_eq_true rfl) (Nat.le_of_ble_eq_true rfl) rfl (by first | exact absurd c_87 (by decide) | exact absurd c_63 c_91 | exact ⟨rfl, _, sv_us, Or.inl ⟨(hw9.resolve_right (fun q => c_63 q.1)).2, rfl, sv_ls (by simp only [List.length_set]; omega), (((gfs.code (.int 0)).rule lq).rule r0).code (.int 0), (fun a q1 => by repeat (first | with_reducible rfl | with_reducible refine (sv_un q1).trans ?_))⟩⟩ | exact ⟨rfl, _, sv_us, Or.inr (Or.inl ⟨(hw9.resolve_left (fun q => by rw [q.1] at c_63; exact absurd c_63 (by decide))).2, sv_w42 hnw c_72, rfl, sv_ls (by simp only [List.length_set]; omega), (((gfs.code (.int 0)).rule lq).rule r0).code (.int 2), (fun a q1 => by repeat (first | with_reducible rfl | with_reducible refine (sv_un q1).trans ?_))⟩)⟩)
            · refine v_iload_n dX13_waive_90 rfl 0 rfl ?_
              refine v_if_eq (tgt := 96) dX13_waive_91 (by decide) (fun c_91 => ?_) (fun c_91 => ?_)
              · refine v_sipush (v := 18024) dX13_waive_96 (by decide) ?_
                refine v_bipush (v := 12) dX13_waive_99 (by decide) ?_
                refine v_iload_n dX13_waive_101 rfl 3 rfl ?_
                refine v_imul dX13_waive_102 ?_
                refine v_iadd dX13_waive_103 ?_
                rw [sv_12c]
                refine v_istore (L' := [(4, _), (3, _), (2, _), (0, _), (1, _)]) dX13_waive_104 (Nat.le_of_ble_eq_true rfl) rfl ?_
                refine v_aload_n dX13_waive_106 rfl 3 rfl ?_
                refine v_getf 34 (ci := 11) (C := RX13) (T := TX13) (N := 71) rfl iwX13_waive_X13 (Nat.le_of_ble_eq_true rfl) (by decide +kernel) dX13_waive_107 (by repeat (first | (with_reducible refine sv_us.trans ?_; exact rfl) | with_reducible assumption | with_reducible refine (sv_un (by omega)).trans ?_)) (by repeat (first | with_reducible assumption | (with_reducible refine (sv_ls (by first | omega | (simp only [List.length_set]; omega))).trans ?_; exact rfl) | with_reducible refine (List.getElem?_set_ne (by decide)).trans ?_)) ?_
                refine v_bipush (v := 8) dX13_waive_110 (by decide) ?_
                refine v_aload_n dX13_waive_112 rfl 3 rfl ?_
                refine v_getf 33 (ci := 11) (C := RX13) (T := TX13) (N := 71) rfl iwX13_waive_X13 (Nat.le_of_ble_eq_true rfl) (by decide +kernel) dX13_waive_113 (by repeat (first | (with_reducible refine sv_us.trans ?_; exact rfl) | with_reducible assumption | with_reducible refine (sv_un (by omega)).trans ?_)) (by repeat (first | with_reducible assumption | (with_reducible refine (sv_ls (by first | omega | (simp only [List.length_set]; omega))).trans ?_; exact rfl) | with_reducible refine (List.getElem?_set_ne (by decide)).trans ?_)) ?_
                refine v_imul dX13_waive_116 ?_
                refine v_aload_n dX13_waive_117 rfl 3 rfl ?_
                refine v_getf 31 (ci := 11) (C := RX13) (T := TX13) (N := 71) rfl iwX13_waive_X13 (Nat.le_of_ble_eq_true rfl) (by decide +kernel) dX13_waive_118 (by repeat (first | (with_reducible refine sv_us.trans ?_; exact rfl) | with_reducible assumption | with_reducible refine (sv_un (by omega)).trans ?_)) (by repeat (first | with_reducible assumption | (with_reducible refine (sv_ls (by first | omega | (simp only [List.length_set]; omega))).trans ?_; exact rfl) | with_reducible refine (List.getElem?_set_ne (by decide)).trans ?_)) ?_
                refine v_i2l dX13_waive_121 rfl ?_
                refine v_last dX13_waive_122 (by repeat (first | (with_reducible refine sv_us.trans ?_; exact rfl) | with_reducible assumption | with_reducible refine (sv_un (by omega)).trans ?_)) (by rw [sv_8c]; exact vp_in_nI (by first | (have q9 := sv_w41 hnw c_72; omega) | exact absurd c_91 c_63 | exact absurd (by decide) c_87) (by omega)) ?_
                refine v_aload_n dX13_waive_123 rfl 3 rfl ?_
                refine v_getf 34 (ci := 11) (C := RX13) (T := TX13) (N := 71) rfl iwX13_waive_X13 (Nat.le_of_ble_eq_true rfl) (by decide +kernel) dX13_waive_124 (by repeat (first | (with_reducible refine sv_us.trans ?_; exact rfl) | with_reducible assumption | with_reducible refine (sv_un (by omega)).trans ?_)) (by repeat (first | with_reducible assumption | (with_reducible refine (sv_ls (by first | omega | (simp only [List.length_set]; omega))).trans ?_; exact rfl) | with_reducible refine (List.getElem?_set_ne (by decide)).trans ?_)) ?_
                refine v_bipush (v := 8) dX13_waive_127 (by decide) ?_
                refine v_aload_n dX13_waive_129 rfl 3 rfl ?_
                refine v_getf 33 (ci := 11) (C := RX13) (T := TX13) (N := 71) rfl iwX13_waive_X13 (Nat.le_of_ble_eq_true rfl) (by decide +kernel) dX13_waive_130 (by repeat (first | (with_reducible refine sv_us.trans ?_; exact rfl) | with_reducible assumption | with_reducible refine (sv_un (by omega)).trans ?_)) (by repeat (first | with_reducible assumption | (with_reducible refine (sv_ls (by first | omega | (simp only [List.length_set]; omega))).trans ?_; exact rfl) | with_reducible refine (List.getElem?_set_ne (by decide)).trans ?_)) ?_
                refine v_imul dX13_waive_133 ?_
                refine v_iconst (v := 1) dX13_waive_134 (by decide) ?_
                refine v_iadd dX13_waive_135 ?_
                refine v_aload_n dX13_waive_136 rfl 3 rfl ?_
                refine v_getf 27 (ci := 11) (C := RX13) (T := TX13) (N := 71) rfl iwX13_waive_X13 (Nat.le_of_ble_eq_true rfl) (by decide +kernel) dX13_waive_137 (by repeat (first | (with_reducible refine sv_us.trans ?_; exact rfl) | with_reducible assumption | with_reducible refine (sv_un (by omega)).trans ?_)) (by repeat (first | with_reducible assumption | (with_reducible refine (sv_ls (by first | omega | (simp only [List.length_set]; omega))).trans ?_; exact rfl) | with_reducible refine (List.getElem?_set_ne (by decide)).trans ?_)) ?_
                refine v_iload dX13_waive_140 0 rfl ?_
                refine v_bipush (v := 7) dX13_waive_142 (by decide) ?_
                refine v_iadd dX13_waive_144 ?_
                refine v_laldS (v := ab_ds lq lr k0 1) dX13_waive_145 (by repeat (first | (with_reducible refine sv_us.trans ?_; exact rfl) | with_reducible assumption | with_reducible refine (sv_un (by omega)).trans ?_)) (by rw [show (7 : Int32) = nI 7 from rfl, nI_add]; exact vp_in_nI (by omega) (by omega)) (by rw [show (7 : Int32) = nI 7 from rfl, nI_add, nI_clamp (by omega), d1]) ?_
                refine v_last dX13_waive_146 (by repeat (first | (with_reducible refine sv_us.trans ?_; exact rfl) | with_reducible assumption | with_reducible refine (sv_un (by omega)).trans ?_)) (by rw [show (1 : Int32) = nI 1 from rfl, sv_8b]; exact vp_in_nI (by first | (have q9 := sv_w41 hnw c_72; omega) | exact absurd c_91 c_63 | exact absurd (by decide) c_87) (by omega)) ?_
                refine v_iconst (v := 0) dX13_waive_147 (by decide) ?_
                refine v_istore (L' := [(5, _), (4, _), (3, _), (2, _), (0, _), (1, _)]) dX13_waive_148 (Nat.le_of_ble_eq_true rfl) rfl ?_
                refine v_sub (L' := [(5, _), (4, _), (3, _), (2, _), (0, _), (1, _)]) [0, 1, 2, 3, 4, 5] rfl ?_
                first
                | exact absurd c_91 c_63
                | exact absurd (by decide) c_87
                | (refine v_nameh (fun hx ehx => ?_)
                   have hm1 : hx (b + 220) = some (.inr (11, ((((fs.set 0 (.int 0)).set 58 (.int lq)).set 58 (.int r0)).set 0 (.int 0)))) := by rw [ehx]; exact (by repeat (first | with_reducible assumption | with_reducible exact sv_us | with_reducible refine (sv_un (by omega)).trans ?_))
                   have ht1 : ab_J G hx (b + 241) 36048 tf := by rw [ehx]; exact (by repeat (first | with_reducible assumption | with_reducible exact sv_us | with_reducible refine (sv_un (by omega)).trans ?_))
                   have hfr1 : ∀ a, a ≠ b + 220 → a ≠ b + 242 → hx a = h a := by
                     intro a q1 q2
                     rw [ehx]
                     repeat (first | with_reducible rfl | with_reducible refine (sv_un (by assumption)).trans ?_)
                   have hw2 : ab_J G hx (b + 242) 320 (vp_updL (vp_updL wf (8 * nw) lq.toInt64) (8 * nw + 1) (ab_ds lq lr k0 1)) := by
                     rw [ehx, show ((8 : Int32) * nI nw).toNatClampNeg = 8 * nw by rw [sv_8c, nI_clamp (by omega)], show ((8 : Int32) * nI nw + 1).toNatClampNeg = 8 * nw + 1 by rw [show (1 : Int32) = nI 1 from rfl, sv_8b, nI_clamp (by omega)]]
                     exact sv_us
                   clear ehx
                   refine l_waivem G _ hx _ b k0 nw _ _ (ab_ds lq lr k0) tf wf ((((fs.set 0 (.int 0)).set 58 (.int lq)).set 58 (.int r0)).set 0 (.int 0)) (by simp only [List.length_set]; exact hlen) hm1 ((List.getElem?_set_ne (by decide)).trans ((List.getElem?_set_ne (by decide)).trans ((List.getElem?_set_ne (by decide)).trans ((List.getElem?_set_ne (by decide)).trans f_waived)))) ((List.getElem?_set_ne (by decide)).trans ((List.getElem?_set_ne (by decide)).trans ((List.getElem?_set_ne (by decide)).trans ((List.getElem?_set_ne (by decide)).trans f_waivedAt)))) ((List.getElem?_set_ne (by decide)).trans ((List.getElem?_set_ne (by decide)).trans ((List.getElem?_set_ne (by decide)).trans ((List.getElem?_set_ne (by decide)).trans f_told)))) ht1 (by omega) (sv_w41 hnw c_72) d4 (fun hi f k0_ k1 k2 k3 k4 k5 => ?_) 4 0 hx _ rfl hw2 ((sv_updL_ne (by omega)).trans sv_updL_eq) sv_updL_eq (fun j hj => absurd hj (Nat.not_lt_zero j)) (fun q hq => (sv_updL_ne (by omega)).trans (sv_updL_ne (by omega))) (fun a _ => rfl)
                   refine v_aload_n dX13_waive_192 rfl 4 rfl ?_
                   refine v_getf 34 (ci := 11) (C := RX13) (T := TX13) (N := 71) rfl iwX13_waive_X13 (Nat.le_of_ble_eq_true rfl) (by decide +kernel) dX13_waive_193 (by first | with_reducible assumption | (with_reducible refine sv_us.trans ?_; exact rfl) | exact (k5 _ (by omega)).trans hm1 | exact (k5 _ (by omega)).trans ht1 | (repeat (first | with_reducible exact (k5 _ (by omega)).trans hm1 | with_reducible exact (k5 _ (by omega)).trans ht1 | with_reducible exact sv_us | with_reducible refine (sv_un (by omega)).trans ?_))) (by repeat (first | with_reducible assumption | (with_reducible refine (sv_ls (by first | omega | (simp only [List.length_set]; omega))).trans ?_; exact rfl) | with_reducible refine (List.getElem?_set_ne (by decide)).trans ?_)) ?_
                   refine v_bipush (v := 8) dX13_waive_196 (by decide) ?_
                   refine v_aload_n dX13_waive_198 rfl 4 rfl ?_
                   refine v_getf 33 (ci := 11) (C := RX13) (T := TX13) (N := 71) rfl iwX13_waive_X13 (Nat.le_of_ble_eq_true rfl) (by decide +kernel) dX13_waive_199 (by first | with_reducible assumption | (with_reducible refine sv_us.trans ?_; exact rfl) | exact (k5 _ (by omega)).trans hm1 | exact (k5 _ (by omega)).trans ht1 | (repeat (first | with_reducible exact (k5 _ (by omega)).trans hm1 | with_reducible exact (k5 _ (by omega)).trans ht1 | with_reducible exact sv_us | with_reducible refine (sv_un (by omega)).trans ?_))) (by repeat (first | with_reducible assumption | (with_reducible refine (sv_ls (by first | omega | (simp only [List.length_set]; omega))).trans ?_; exact rfl) | with_reducible refine (List.getElem?_set_ne (by decide)).trans ?_)) ?_
                   refine v_imul dX13_waive_202 ?_
                   refine v_bipush (v := 6) dX13_waive_203 (by decide) ?_
                   refine v_iadd dX13_waive_205 ?_
                   refine v_aload_n dX13_waive_206 rfl 4 rfl ?_
                   refine v_getf 27 (ci := 11) (C := RX13) (T := TX13) (N := 71) rfl iwX13_waive_X13 (Nat.le_of_ble_eq_true rfl) (by decide +kernel) dX13_waive_207 (by first | with_reducible assumption | (with_reducible refine sv_us.trans ?_; exact rfl) | exact (k5 _ (by omega)).trans hm1 | exact (k5 _ (by omega)).trans ht1 | (repeat (first | with_reducible exact (k5 _ (by omega)).trans hm1 | with_reducible exact (k5 _ (by omega)).trans ht1 | with_reducible exact sv_us | with_reducible refine (sv_un (by omega)).trans ?_))) (by repeat (first | with_reducible assumption | (with_reducible refine (sv_ls (by first | omega | (simp only [List.length_set]; omega))).trans ?_; exact rfl) | with_reducible refine (List.getElem?_set_ne (by decide)).trans ?_)) ?_
                   refine v_iload dX13_waive_210 1 rfl ?_
                   refine v_iconst (v := 4) dX13_waive_212 (by decide) ?_
                   refine v_iadd dX13_waive_213 ?_
                   refine v_laldS (v := ab_ds lq lr k0 2) dX13_waive_214 (by first | with_reducible assumption | (with_reducible refine sv_us.trans ?_; exact rfl) | exact (k5 _ (by omega)).trans hm1 | exact (k5 _ (by omega)).trans ht1 | (repeat (first | with_reducible exact (k5 _ (by omega)).trans hm1 | with_reducible exact (k5 _ (by omega)).trans ht1 | with_reducible exact sv_us | with_reducible refine (sv_un (by omega)).trans ?_))) (by rw [show (4 : Int32) = nI 4 from rfl, nI_add]; exact vp_in_nI (by omega) (by omega)) (by rw [show (4 : Int32) = nI 4 from rfl, nI_add, nI_clamp (by omega), d2]) ?_
                   refine v_last dX13_waive_215 (by first | with_reducible assumption | (with_reducible refine sv_us.trans ?_; exact rfl) | exact (k5 _ (by omega)).trans hm1 | exact (k5 _ (by omega)).trans ht1 | (repeat (first | with_reducible exact (k5 _ (by omega)).trans hm1 | with_reducible exact (k5 _ (by omega)).trans ht1 | with_reducible exact sv_us | with_reducible refine (sv_un (by omega)).trans ?_))) (by rw [show (6 : Int32) = nI 6 from rfl, sv_8b]; exact vp_in_nI (by have q9 := (sv_w41 hnw c_72); omega) (by omega)) ?_
                   refine v_aload_n dX13_waive_216 rfl 4 rfl ?_
                   refine v_getf 34 (ci := 11) (C := RX13) (T := TX13) (N := 71) rfl iwX13_waive_X13 (Nat.le_of_ble_eq_true rfl) (by decide +kernel) dX13_waive_217 (by first | with_reducible assumption | (with_reducible refine sv_us.trans ?_; exact rfl) | exact (k5 _ (by omega)).trans hm1 | exact (k5 _ (by omega)).trans ht1 | (repeat (first | with_reducible exact (k5 _ (by omega)).trans hm1 | with_reducible exact (k5 _ (by omega)).trans ht1 | with_reducible exact sv_us | with_reducible refine (sv_un (by omega)).trans ?_))) (by repeat (first | with_reducible assumption | (with_reducible refine (sv_ls (by first | omega | (simp only [List.length_set]; omega))).trans ?_; exact rfl) | with_reducible refine (List.getElem?_set_ne (by decide)).trans ?_)) ?_
                   refine v_bipush (v := 8) dX13_waive_220 (by decide) ?_
                   refine v_aload_n dX13_waive_222 rfl 4 rfl ?_
                   refine v_getf 33 (ci := 11) (C := RX13) (T := TX13) (N := 71) rfl iwX13_waive_X13 (Nat.le_of_ble_eq_true rfl) (by decide +kernel) dX13_waive_223 (by first | with_reducible assumption | (with_reducible refine sv_us.trans ?_; exact rfl) | exact (k5 _ (by omega)).trans hm1 | exact (k5 _ (by omega)).trans ht1 | (repeat (first | with_reducible exact (k5 _ (by omega)).trans hm1 | with_reducible exact (k5 _ (by omega)).trans ht1 | with_reducible exact sv_us | with_reducible refine (sv_un (by omega)).trans ?_))) (by repeat (first | with_reducible assumption | (with_reducible refine (sv_ls (by first | omega | (simp only [List.length_set]; omega))).trans ?_; exact rfl) | with_reducible refine (List.getElem?_set_ne (by decide)).trans ?_)) ?_
                   refine v_imul dX13_waive_226 ?_
                   refine v_bipush (v := 7) dX13_waive_227 (by decide) ?_
                   refine v_iadd dX13_waive_229 ?_
                   refine v_aload_n dX13_waive_230 rfl 4 rfl ?_
                   refine v_getf 27 (ci := 11) (C := RX13) (T := TX13) (N := 71) rfl iwX13_waive_X13 (Nat.le_of_ble_eq_true rfl) (by decide +kernel) dX13_waive_231 (by first | with_reducible assumption | (with_reducible refine sv_us.trans ?_; exact rfl) | exact (k5 _ (by omega)).trans hm1 | exact (k5 _ (by omega)).trans ht1 | (repeat (first | with_reducible exact (k5 _ (by omega)).trans hm1 | with_reducible exact (k5 _ (by omega)).trans ht1 | with_reducible exact sv_us | with_reducible refine (sv_un (by omega)).trans ?_))) (by repeat (first | with_reducible assumption | (with_reducible refine (sv_ls (by first | omega | (simp only [List.length_set]; omega))).trans ?_; exact rfl) | with_reducible refine (List.getElem?_set_ne (by decide)).trans ?_)) ?_
                   refine v_iload dX13_waive_234 1 rfl ?_
                   refine v_iconst (v := 5) dX13_waive_236 (by decide) ?_
                   refine v_iadd dX13_waive_237 ?_
                   refine v_laldS (v := ab_ds lq lr k0 3) dX13_waive_238 (by first | with_reducible assumption | (with_reducible refine sv_us.trans ?_; exact rfl) | exact (k5 _ (by omega)).trans hm1 | exact (k5 _ (by omega)).trans ht1 | (repeat (first | with_reducible exact (k5 _ (by omega)).trans hm1 | with_reducible exact (k5 _ (by omega)).trans ht1 | with_reducible exact sv_us | with_reducible refine (sv_un (by omega)).trans ?_))) (by rw [show (5 : Int32) = nI 5 from rfl, nI_add]; exact vp_in_nI (by omega) (by omega)) (by rw [show (5 : Int32) = nI 5 from rfl, nI_add, nI_clamp (by omega), d3]) ?_
                   refine v_last dX13_waive_239 (by first | with_reducible assumption | (with_reducible refine sv_us.trans ?_; exact rfl) | exact (k5 _ (by omega)).trans hm1 | exact (k5 _ (by omega)).trans ht1 | (repeat (first | with_reducible exact (k5 _ (by omega)).trans hm1 | with_reducible exact (k5 _ (by omega)).trans ht1 | with_reducible exact sv_us | with_reducible refine (sv_un (by omega)).trans ?_))) (by rw [show (7 : Int32) = nI 7 from rfl, sv_8b]; exact vp_in_nI (by have q9 := (sv_w41 hnw c_72); omega) (by omega)) ?_
                   refine v_aload_n dX13_waive_240 rfl 4 rfl ?_
                   refine v_dup dX13_waive_241 rfl ?_
                   refine v_getf 33 (ci := 11) (C := RX13) (T := TX13) (N := 71) rfl iwX13_waive_X13 (Nat.le_of_ble_eq_true rfl) (by decide +kernel) dX13_waive_242 (by first | with_reducible assumption | (with_reducible refine sv_us.trans ?_; exact rfl) | exact (k5 _ (by omega)).trans hm1 | exact (k5 _ (by omega)).trans ht1 | (repeat (first | with_reducible exact (k5 _ (by omega)).trans hm1 | with_reducible exact (k5 _ (by omega)).trans ht1 | with_reducible exact sv_us | with_reducible refine (sv_un (by omega)).trans ?_))) (by repeat (first | with_reducible assumption | (with_reducible refine (sv_ls (by first | omega | (simp only [List.length_set]; omega))).trans ?_; exact rfl) | with_reducible refine (List.getElem?_set_ne (by decide)).trans ?_)) ?_
                   refine v_iconst (v := 1) dX13_waive_245 (by decide) ?_
                   refine v_iadd dX13_waive_246 ?_
                   refine v_putf 33 (fs' := _) (ci := 11) (C := RX13) (T := TX13) (N := 71) (ty := .int) rfl iwX13_waive_X13 tyX13 tyX13_ok nmX13 (Nat.le_of_ble_eq_true rfl) (by decide +kernel) rfl rfl dX13_waive_247 rfl rfl (by first | with_reducible assumption | (with_reducible refine sv_us.trans ?_; exact rfl) | exact (k5 _ (by omega)).trans hm1 | exact (k5 _ (by omega)).trans ht1 | (repeat (first | with_reducible exact (k5 _ (by omega)).trans hm1 | with_reducible exact (k5 _ (by omega)).trans ht1 | with_reducible exact sv_us | with_reducible refine (sv_un (by omega)).trans ?_))) (by first | omega | (simp only [List.length_set]; omega)) rfl ?_
                   refine v_iconst (v := 1) dX13_waive_250 (by decide) ?_
                   exact v_iret rfl dX13_waive_251 (Nat.le_of_ble_eq_true rfl) (Nat.le_of_ble_eq_true rfl) rfl (by
                         rw [show ((8 : Int32) * nI nw + 6).toNatClampNeg = 8 * nw + 6 by rw [show (6 : Int32) = nI 6 from rfl, sv_8b, nI_clamp (by omega)], show ((8 : Int32) * nI nw + 7).toNatClampNeg = 8 * nw + 7 by rw [show (7 : Int32) = nI 7 from rfl, sv_8b, nI_clamp (by omega)]]
                         exact ⟨rfl, _, sv_us, Or.inr (Or.inr ⟨(hw9.resolve_left (fun q => by rw [q.1] at c_63; exact absurd c_63 (by decide))).2, (sv_w41 hnw c_72), rfl, (List.getElem?_set_ne (by decide)).trans (sv_ls (by simp only [List.length_set]; omega)), (by rw [nI_1]; exact ((((gfs.code (.int 0)).rule lq).rule r0).code (.int 0)).waived (nw + 1)), ⟨_, (sv_un (by omega)).trans sv_us, sv_wfin k1 k2 k3 k4 hwr⟩, (fun a q1 q2 => (sv_un q1).trans ((sv_un q2).trans ((sv_un q2).trans ((k5 a q2).trans (hfr1 a q1 q2)))))⟩)⟩))
              · refine v_iconst (v := 0) dX13_waive_94 (by decide) ?_
                exact v_iret rfl dX13_waive_95 (Nat.le_of_ble_eq_true rfl) (Nat.le_of_ble_eq_true rfl) rfl (by first | exact absurd c_87 (by decide) | exact absurd c_63 c_91 | exact ⟨rfl, _, sv_us, Or.inl ⟨(hw9.resolve_right (fun q => c_63 q.1)).2, rfl, sv_ls (by simp only [List.length_set]; omega), (((gfs.code (.int 0)).rule lq).rule r0).code (.int 0), (fun a q1 => by repeat (first | with_reducible rfl | with_reducible refine (sv_un q1).trans ?_))⟩⟩ | exact ⟨rfl, _, sv_us, Or.inr (Or.inl ⟨(hw9.resolve_left (fun q => by rw [q.1] at c_63; exact absurd c_63 (by decide))).2, sv_w42 hnw c_72, rfl, sv_ls (by simp only [List.length_set]; omega), (((gfs.code (.int 0)).rule lq).rule r0).code (.int 2), (fun a q1 => by repeat (first | with_reducible rfl | with_reducible refine (sv_un q1).trans ?_))⟩)⟩)
      · exact absurd (by decide) c_25
    · exact absurd hg.2 c_10

