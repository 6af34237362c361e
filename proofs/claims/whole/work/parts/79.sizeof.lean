set_option maxHeartbeats 4000000 in
set_option maxRecDepth 100000 in
theorem l_size3 (G : sv_G) (P : sv_P) (h : sv_h) (z b nc np pl : Nat) (fs : List Value) (R : Nat → Bool) (hm p3 p4 : Nat → Nat) (sz : Nat → Nat) (u : Nat → Nat → Nat → Int32) (ow gs fh fg : Nat → Int32) (gx gy : Nat → Int64) (hlen : fs.length = 71) (hmo : h (b + 220) = some (.inr (11, fs))) (f_cells : fs[2]? = some (.int (nI nc))) (f_polygons : fs[3]? = some (.int (nI np))) (f_places : fs[10]? = some (.int (nI pl))) (f_owner : fs[4]? = some (.ref (b + 221))) (f_size : fs[7]? = some (.ref (b + 224))) (f_px : fs[8]? = some (.ref (b + 225))) (f_py : fs[9]? = some (.ref (b + 226))) (f_placeIn : fs[11]? = some (.ref (b + 227))) (f_placeOf : fs[12]? = some (.ref (b + 228))) (f_sizes : fs[42]? = some (.ref (b + 248))) (r1 : ab_I G h (b + 221) 64 ow) (hgs : ab_I G h (b + 224) 64 gs) (hgx : ab_J G h (b + 225) 1024 gx) (hgy : ab_J G h (b + 226) 1024 gy) (hh1 : ab_I G h (b + 227) 32 fh) (hh2 : ab_I G h (b + 228) 32 fg) (hnc : nc ≤ 16) (hnp : np ≤ 64) (hpl : pl ≤ 32) (hpp : ∀ i, i < pl → fh i = nI (p3 i) ∧ fg i = nI (p4 i) ∧ p3 i < nc ∧ p4 i < nc) (hpo : ∀ p, p < np → ow p = nI (hm p) ∧ hm p < nc ∧ gs p = nI (sz p) ∧ sz p ≤ 16 ∧ (∀ i, i < sz p → gx (16 * p + i) = (u 0 p i).toInt64) ∧ (∀ i, i < sz p → gy (16 * p + i) = (u 1 p i).toInt64) ∧ (R p = true ↔ gm_mr (sz p) (u 0 p) (u 1 p))) (rk : Nat → Nat) (hrk : ∀ i, i < pl → rk (p4 i) < rk (p3 i)) (hrn : ∀ c, c < nc → rk c < nc) (s : Nat) (hs : s < 16) (w1 w2 : Int32) (hk : ∀ (hi : sv_h) (f : Nat → Int64) (w3 : Int32), ab_J G hi (b + 248) 16 f → (∀ d, d < nc → (rk d < s ∨ (d < nc ∧ rk d < s + 1)) → f d = lN (min 100000 (oc_n np pl R hm p3 p4 16 d))) → (∀ w, w ≠ b + 248 → hi w = h w) → V G mX13_sizeOf P 169 [(3, .int (w3)), (2, .int w2), (0, .ref (b + 220)), (1, .int w1)] [] hi z 0 0) : ∀ (k c : Nat) (hi : sv_h) (f : Nat → Int64), c + k = nc → ab_J G hi (b + 248) 16 f → (∀ d, d < nc → (rk d < s ∨ (d < c ∧ rk d < s + 1)) → f d = lN (min 100000 (oc_n np pl R hm p3 p4 16 d))) → (∀ w, w ≠ b + 248 → hi w = h w) → V G mX13_sizeOf P 31 [(3, .int (nI c)), (2, .int w2), (0, .ref (b + 220)), (1, .int w1)] [] hi z 0 0 := by
  intro k
  induction k with
  | zero =>
    intro c hi f hck hsf hgo hfr
    refine v_iload_n dX13_sizeOf_31 rfl 0 rfl ?_
    refine v_aload_n dX13_sizeOf_32 rfl 2 rfl ?_
    refine v_getf 2 (ci := 11) (C := RX13) (T := TX13) (N := 71) rfl iwX13_sizeOf_X13 (Nat.le_of_ble_eq_true rfl) (by decide +kernel) dX13_sizeOf_33 (by first | with_reducible assumption | exact (hfr _ (by omega)).trans hmo | exact (hfr _ (by omega)).trans r1 | exact (hfr _ (by omega)).trans hh1 | exact (hfr _ (by omega)).trans hh2) (by repeat (first | with_reducible assumption | (with_reducible refine (sv_ls (by first | omega | (simp only [List.length_set]; omega))).trans ?_; exact rfl) | with_reducible refine (List.getElem?_set_ne (by decide)).trans ?_)) ?_
    refine v_icmp_ge (tgt := 169) dX13_sizeOf_36 (by decide) (fun c_36 => ?_) (fun c_36 => ?_)
    · (obtain rfl : c = nc := by omega)
      exact hk hi f _ hsf hgo hfr
    · exact absurd (show nI nc ≤ nI c from nI_le (by omega) (by omega)) c_36
  | succ k ih =>
    intro c hi f hck hsf hgo hfr
    refine v_iload_n dX13_sizeOf_31 rfl 0 rfl ?_
    refine v_aload_n dX13_sizeOf_32 rfl 2 rfl ?_
    refine v_getf 2 (ci := 11) (C := RX13) (T := TX13) (N := 71) rfl iwX13_sizeOf_X13 (Nat.le_of_ble_eq_true rfl) (by decide +kernel) dX13_sizeOf_33 (by first | with_reducible assumption | exact (hfr _ (by omega)).trans hmo | exact (hfr _ (by omega)).trans r1 | exact (hfr _ (by omega)).trans hh1 | exact (hfr _ (by omega)).trans hh2) (by repeat (first | with_reducible assumption | (with_reducible refine (sv_ls (by first | omega | (simp only [List.length_set]; omega))).trans ?_; exact rfl) | with_reducible refine (List.getElem?_set_ne (by decide)).trans ?_)) ?_
    refine v_icmp_ge (tgt := 169) dX13_sizeOf_36 (by decide) (fun c_36 => ?_) (fun c_36 => ?_)
    · exact absurd c_36 (nI_ge (by omega) (by omega))
    · refine v_lconst (v := 0) dX13_sizeOf_39 (by decide) ?_
      refine v_lstore (L' := [(4, _), (3, _), (2, _), (0, _), (1, _)]) dX13_sizeOf_40 (Nat.le_of_ble_eq_true rfl) rfl ?_
      refine v_iconst (v := 0) dX13_sizeOf_42 (by decide) ?_
      refine v_istore (L' := [(6, _), (4, _), (3, _), (2, _), (0, _), (1, _)]) dX13_sizeOf_43 (Nat.le_of_ble_eq_true rfl) rfl ?_
      refine v_sub (L' := [(6, _), (4, _), (3, _), (2, _), (0, _), (1, _)]) [0, 1, 2, 3, 4, 5] rfl ?_
      refine l_size1 G P h z b nc np pl fs R hm p3 p4 sz u ow gs fh fg gx gy hlen hmo f_cells f_polygons f_places f_owner f_size f_px f_py f_placeIn f_placeOf f_sizes r1 hgs hgx hgy hh1 hh2 hnc hnp hpl hpp hpo hi hfr c (by omega) w1 w2 (fun w6 => ?_) np 0 (by omega)
      refine v_iconst (v := 0) dX13_sizeOf_90 (by decide) ?_
      refine v_istore (L' := [(6, _), (4, _), (3, _), (2, _), (0, _), (1, _)]) dX13_sizeOf_91 (Nat.le_of_ble_eq_true rfl) rfl ?_
      refine l_size2 G P h z b nc np pl fs R hm p3 p4 sz u ow gs fh fg gx gy hlen hmo f_cells f_polygons f_places f_owner f_size f_px f_py f_placeIn f_placeOf f_sizes r1 hgs hgx hgy hh1 hh2 hnc hnp hpl hpp hpo hi hfr f hsf c (by omega) (lN (oc_w R hm c np)) w1 w2 (fun w6 => ?_) pl 0 (by omega)
      refine v_aload_n dX13_sizeOf_140 rfl 4 rfl ?_
      refine v_getf 42 (ci := 11) (C := RX13) (T := TX13) (N := 71) rfl iwX13_sizeOf_X13 (Nat.le_of_ble_eq_true rfl) (by decide +kernel) dX13_sizeOf_141 (by first | with_reducible assumption | exact (hfr _ (by omega)).trans hmo | exact (hfr _ (by omega)).trans r1 | exact (hfr _ (by omega)).trans hh1 | exact (hfr _ (by omega)).trans hh2) (by repeat (first | with_reducible assumption | (with_reducible refine (sv_ls (by first | omega | (simp only [List.length_set]; omega))).trans ?_; exact rfl) | with_reducible refine (List.getElem?_set_ne (by decide)).trans ?_)) ?_
      refine v_iload_n dX13_sizeOf_144 rfl 2 rfl ?_
      refine v_lload dX13_sizeOf_145 1 rfl ?_
      refine v_ldc2 (v := (100000)) (by decide +kernel) dX13_sizeOf_147 ?_
      refine v_lcmp_le (tgt := 160) dX13_sizeOf_150 dX13_sizeOf_151 (by decide) (fun c_151 => ?_) (fun c_151 => ?_)
      · refine v_lload dX13_sizeOf_160 1 rfl ?_
        refine v_last dX13_sizeOf_162 (by first | with_reducible assumption | exact (hfr _ (by omega)).trans hmo | exact (hfr _ (by omega)).trans r1 | exact (hfr _ (by omega)).trans hh1 | exact (hfr _ (by omega)).trans hh2) (vp_in_nI (by omega) (by omega)) ?_
        refine v_iinc (j := 2) (L' := [(3, _), (6, _), (4, _), (2, _), (0, _), (1, _)]) (v := nI (c + 1)) dX13_sizeOf_163 rfl (nI_1 _) (Nat.le_of_ble_eq_true rfl) rfl ?_
        refine v_goto (tgt := 31) dX13_sizeOf_166 (by decide) ?_
        refine v_sub (L' := [(3, _), (2, _), (0, _), (1, _)]) [0, 3, 4, 5] rfl ?_
        rw [nI_clamp (n := c) (by omega)]
        refine ih (c + 1) _ _ (by omega) sv_us (fun d hd hq => ?_) (fun w q => (sv_un q).trans (hfr w q))
        by_cases e : d = c
        · subst e
          rw [sv_updL_eq]
          have hrd : rk d < s + 1 := by omega
          have e1 : ms_s p3 p4 f d (lN (oc_w R hm d np)) pl = lN (oc_w R hm d np + oc_s p3 p4 (fun d => min 100000 (oc_n np pl R hm p3 p4 16 d)) d pl) := ms_s_ok pl (fun j hj ej => hgo _ (hpp j hj).2.2.2 (Or.inl (by have := hrk j hj; rw [ej] at this; omega)))
          have b1 := oc_w_le R hm d np
          have b2 : oc_s p3 p4 (fun d => min 100000 (oc_n np pl R hm p3 p4 16 d)) d pl ≤ pl * 100000 := oc_s_bd (fun x => by show min 100000 _ ≤ _; omega) pl
          have e2 := oc_val (np := np) (R := R) (hm := hm) hrk (c := d) (by have := hrn d hd; omega)
          first
          | (have c9 : ms_s p3 p4 f d (lN (oc_w R hm d np)) pl ≤ 100000 := c_151
             rw [e1] at c9 ⊢
             have c8 := (lN_le (b := 100000) (by omega) (by omega)).mp c9
             rw [← e2, Nat.min_eq_right c8])
          | (have c9 : ¬ ms_s p3 p4 f d (lN (oc_w R hm d np)) pl ≤ 100000 := c_151
             rw [e1] at c9
             have c8 : ¬ _ ≤ 100000 := fun q => c9 ((lN_le (b := 100000) (by omega) (by omega)).mpr q)
             rw [← e2, Nat.min_eq_left (by omega)]; rfl)
        · rw [sv_updL_ne e]; exact hgo d hd (by omega)
      · refine v_ldc2 (v := (100000)) (by decide +kernel) dX13_sizeOf_154 ?_
        refine v_goto (tgt := 162) dX13_sizeOf_157 (by decide) ?_
        refine v_last dX13_sizeOf_162 (by first | with_reducible assumption | exact (hfr _ (by omega)).trans hmo | exact (hfr _ (by omega)).trans r1 | exact (hfr _ (by omega)).trans hh1 | exact (hfr _ (by omega)).trans hh2) (vp_in_nI (by omega) (by omega)) ?_
        refine v_iinc (j := 2) (L' := [(3, _), (6, _), (4, _), (2, _), (0, _), (1, _)]) (v := nI (c + 1)) dX13_sizeOf_163 rfl (nI_1 _) (Nat.le_of_ble_eq_true rfl) rfl ?_
        refine v_goto (tgt := 31) dX13_sizeOf_166 (by decide) ?_
        refine v_sub (L' := [(3, _), (2, _), (0, _), (1, _)]) [0, 3, 4, 5] rfl ?_
        rw [nI_clamp (n := c) (by omega)]
        refine ih (c + 1) _ _ (by omega) sv_us (fun d hd hq => ?_) (fun w q => (sv_un q).trans (hfr w q))
        by_cases e : d = c
        · subst e
          rw [sv_updL_eq]
          have hrd : rk d < s + 1 := by omega
          have e1 : ms_s p3 p4 f d (lN (oc_w R hm d np)) pl = lN (oc_w R hm d np + oc_s p3 p4 (fun d => min 100000 (oc_n np pl R hm p3 p4 16 d)) d pl) := ms_s_ok pl (fun j hj ej => hgo _ (hpp j hj).2.2.2 (Or.inl (by have := hrk j hj; rw [ej] at this; omega)))
          have b1 := oc_w_le R hm d np
          have b2 : oc_s p3 p4 (fun d => min 100000 (oc_n np pl R hm p3 p4 16 d)) d pl ≤ pl * 100000 := oc_s_bd (fun x => by show min 100000 _ ≤ _; omega) pl
          have e2 := oc_val (np := np) (R := R) (hm := hm) hrk (c := d) (by have := hrn d hd; omega)
          first
          | (have c9 : ms_s p3 p4 f d (lN (oc_w R hm d np)) pl ≤ 100000 := c_151
             rw [e1] at c9 ⊢
             have c8 := (lN_le (b := 100000) (by omega) (by omega)).mp c9
             rw [← e2, Nat.min_eq_right c8])
          | (have c9 : ¬ ms_s p3 p4 f d (lN (oc_w R hm d np)) pl ≤ 100000 := c_151
             rw [e1] at c9
             have c8 : ¬ _ ≤ 100000 := fun q => c9 ((lN_le (b := 100000) (by omega) (by omega)).mpr q)
             rw [← e2, Nat.min_eq_left (by omega)]; rfl)
        · rw [sv_updL_ne e]; exact hgo d hd (by omega)

set_option maxHeartbeats 4000000 in
set_option maxRecDepth 100000 in
theorem l_size4 (G : sv_G) (h : sv_h) (z b nc np pl : Nat) (fs : List Value) (R : Nat → Bool) (hm p3 p4 : Nat → Nat) (sz : Nat → Nat) (u : Nat → Nat → Nat → Int32) (ow gs fh fg : Nat → Int32) (gx gy : Nat → Int64) (hlen : fs.length = 71) (hmo : h (b + 220) = some (.inr (11, fs))) (f_cells : fs[2]? = some (.int (nI nc))) (f_polygons : fs[3]? = some (.int (nI np))) (f_places : fs[10]? = some (.int (nI pl))) (f_owner : fs[4]? = some (.ref (b + 221))) (f_size : fs[7]? = some (.ref (b + 224))) (f_px : fs[8]? = some (.ref (b + 225))) (f_py : fs[9]? = some (.ref (b + 226))) (f_placeIn : fs[11]? = some (.ref (b + 227))) (f_placeOf : fs[12]? = some (.ref (b + 228))) (f_sizes : fs[42]? = some (.ref (b + 248))) (r1 : ab_I G h (b + 221) 64 ow) (hgs : ab_I G h (b + 224) 64 gs) (hgx : ab_J G h (b + 225) 1024 gx) (hgy : ab_J G h (b + 226) 1024 gy) (hh1 : ab_I G h (b + 227) 32 fh) (hh2 : ab_I G h (b + 228) 32 fg) (hnc : nc ≤ 16) (hnp : np ≤ 64) (hpl : pl ≤ 32) (hpp : ∀ i, i < pl → fh i = nI (p3 i) ∧ fg i = nI (p4 i) ∧ p3 i < nc ∧ p4 i < nc) (hpo : ∀ p, p < np → ow p = nI (hm p) ∧ hm p < nc ∧ gs p = nI (sz p) ∧ sz p ≤ 16 ∧ (∀ i, i < sz p → gx (16 * p + i) = (u 0 p i).toInt64) ∧ (∀ i, i < sz p → gy (16 * p + i) = (u 1 p i).toInt64) ∧ (R p = true ↔ gm_mr (sz p) (u 0 p) (u 1 p))) (rk : Nat → Nat) (hrk : ∀ i, i < pl → rk (p4 i) < rk (p3 i)) (hrn : ∀ c, c < nc → rk c < nc) (cl : Nat) (hcl : cl < nc) : ∀ (k s : Nat) (hi : sv_h) (f : Nat → Int64), s + k = 16 → ab_J G hi (b + 248) 16 f → (∀ d, d < nc → rk d < s → f d = lN (min 100000 (oc_n np pl R hm p3 p4 16 d))) → (∀ w, w ≠ b + 248 → hi w = h w) → V G mX13_sizeOf (sv_MQ G mX13_sizeOf (fun v h1 z1 => z1 = z ∧ v = some (.long (lN (min 100000 (oc_n np pl R hm p3 p4 16 cl)))) ∧ (∃ f, ab_J G h1 (b + 248) 16 f ∧ ∀ d, d < nc → f d = lN (min 100000 (oc_n np pl R hm p3 p4 16 d))) ∧ ∀ w, w ≠ b + 248 → h1 w = h w)) 23 [(2, .int (nI s)), (0, .ref (b + 220)), (1, .int (nI cl))] [] hi z 0 0 := by
  intro k
  induction k with
  | zero =>
    intro s hi f hsk hsf hgo hfr
    refine v_iload_n dX13_sizeOf_23 rfl 0 rfl ?_
    refine v_bipush (v := 16) dX13_sizeOf_24 (by decide) ?_
    refine v_icmp_ge (tgt := 175) dX13_sizeOf_26 (by decide) (fun c_26 => ?_) (fun c_26 => ?_)
    · refine v_aload_n dX13_sizeOf_175 rfl 1 rfl ?_
      refine v_getf 42 (ci := 11) (C := RX13) (T := TX13) (N := 71) rfl iwX13_sizeOf_X13 (Nat.le_of_ble_eq_true rfl) (by decide +kernel) dX13_sizeOf_176 (by first | with_reducible assumption | exact (hfr _ (by omega)).trans hmo | exact (hfr _ (by omega)).trans r1 | exact (hfr _ (by omega)).trans hh1 | exact (hfr _ (by omega)).trans hh2) (by repeat (first | with_reducible assumption | (with_reducible refine (sv_ls (by first | omega | (simp only [List.length_set]; omega))).trans ?_; exact rfl) | with_reducible refine (List.getElem?_set_ne (by decide)).trans ?_)) ?_
      refine v_iload_n dX13_sizeOf_179 rfl 2 rfl ?_
      refine v_laldS (v := lN (min 100000 (oc_n np pl R hm p3 p4 16 cl))) dX13_sizeOf_180 (by first | with_reducible assumption | exact (hfr _ (by omega)).trans hmo | exact (hfr _ (by omega)).trans r1 | exact (hfr _ (by omega)).trans hh1 | exact (hfr _ (by omega)).trans hh2) (vp_in_nI (by omega) (by omega)) (by rw [nI_clamp (by omega)]; exact hgo cl hcl (by have := hrn cl hcl; omega)) ?_
      exact v_lret rfl dX13_sizeOf_181 (Nat.le_of_ble_eq_true rfl) (Nat.le_of_ble_eq_true rfl) ⟨rfl, rfl, ⟨f, hsf, fun d hd => hgo d hd (by have := hrn d hd; omega)⟩, hfr⟩
    · exact absurd (show (16 : Int32) ≤ nI s from nI_le (a := 16) (by omega) (by omega)) c_26
  | succ k ih =>
    intro s hi f hsk hsf hgo hfr
    refine v_iload_n dX13_sizeOf_23 rfl 0 rfl ?_
    refine v_bipush (v := 16) dX13_sizeOf_24 (by decide) ?_
    refine v_icmp_ge (tgt := 175) dX13_sizeOf_26 (by decide) (fun c_26 => ?_) (fun c_26 => ?_)
    · exact absurd c_26 (nI_ge (b := 16) (by omega) (by omega))
    · refine v_iconst (v := 0) dX13_sizeOf_29 (by decide) ?_
      refine v_istore_n (L' := [(3, _), (2, _), (0, _), (1, _)]) dX13_sizeOf_30 rfl (Nat.le_of_ble_eq_true rfl) rfl ?_
      refine v_sub (L' := [(3, _), (2, _), (0, _), (1, _)]) [0, 1, 2, 3] rfl ?_
      refine l_size3 G _ h z b nc np pl fs R hm p3 p4 sz u ow gs fh fg gx gy hlen hmo f_cells f_polygons f_places f_owner f_size f_px f_py f_placeIn f_placeOf f_sizes r1 hgs hgx hgy hh1 hh2 hnc hnp hpl hpp hpo rk hrk hrn s (by omega) _ _ (fun hi2 f2 w3 j1 j2 j3 => ?_) nc 0 hi f (by omega) hsf (fun d hd q => hgo d hd (by omega)) hfr
      refine v_iinc (j := 1) (L' := [(2, _), (3, _), (0, _), (1, _)]) (v := nI (s + 1)) dX13_sizeOf_169 rfl (nI_1 _) (Nat.le_of_ble_eq_true rfl) rfl ?_
      refine v_goto (tgt := 23) dX13_sizeOf_172 (by decide) ?_
      refine v_sub (L' := [(2, _), (0, _), (1, _)]) [0, 2, 3] rfl ?_
      exact ih (s + 1) hi2 f2 (by omega) j1 (fun d hd hr => j2 d hd (Or.inr ⟨hd, hr⟩)) j3

set_option maxHeartbeats 4000000 in
set_option maxRecDepth 100000 in
theorem l_size0 (G : sv_G) (P : sv_P) (h : sv_h) (z b nc np pl : Nat) (fs : List Value) (R : Nat → Bool) (hm p3 p4 : Nat → Nat) (sz : Nat → Nat) (u : Nat → Nat → Nat → Int32) (ow gs fh fg : Nat → Int32) (gx gy : Nat → Int64) (hlen : fs.length = 71) (hmo : h (b + 220) = some (.inr (11, fs))) (f_cells : fs[2]? = some (.int (nI nc))) (f_polygons : fs[3]? = some (.int (nI np))) (f_places : fs[10]? = some (.int (nI pl))) (f_owner : fs[4]? = some (.ref (b + 221))) (f_size : fs[7]? = some (.ref (b + 224))) (f_px : fs[8]? = some (.ref (b + 225))) (f_py : fs[9]? = some (.ref (b + 226))) (f_placeIn : fs[11]? = some (.ref (b + 227))) (f_placeOf : fs[12]? = some (.ref (b + 228))) (f_sizes : fs[42]? = some (.ref (b + 248))) (r1 : ab_I G h (b + 221) 64 ow) (hgs : ab_I G h (b + 224) 64 gs) (hgx : ab_J G h (b + 225) 1024 gx) (hgy : ab_J G h (b + 226) 1024 gy) (hh1 : ab_I G h (b + 227) 32 fh) (hh2 : ab_I G h (b + 228) 32 fg) (hnc : nc ≤ 16) (hnp : np ≤ 64) (hpl : pl ≤ 32) (hpp : ∀ i, i < pl → fh i = nI (p3 i) ∧ fg i = nI (p4 i) ∧ p3 i < nc ∧ p4 i < nc) (hpo : ∀ p, p < np → ow p = nI (hm p) ∧ hm p < nc ∧ gs p = nI (sz p) ∧ sz p ≤ 16 ∧ (∀ i, i < sz p → gx (16 * p + i) = (u 0 p i).toInt64) ∧ (∀ i, i < sz p → gy (16 * p + i) = (u 1 p i).toInt64) ∧ (R p = true ↔ gm_mr (sz p) (u 0 p) (u 1 p))) (w1 : Int32) (hk : ∀ (hi : sv_h) (f : Nat → Int64) (w2 : Int32), ab_J G hi (b + 248) 16 f → (∀ w, w ≠ b + 248 → hi w = h w) → V G mX13_sizeOf P 21 [(2, .int w2), (0, .ref (b + 220)), (1, .int w1)] [] hi z 0 0) : ∀ (k i : Nat) (hi : sv_h) (f : Nat → Int64), i + k = 16 → ab_J G hi (b + 248) 16 f → (∀ w, w ≠ b + 248 → hi w = h w) → V G mX13_sizeOf P 2 [(2, .int (nI i)), (0, .ref (b + 220)), (1, .int w1)] [] hi z 0 0 := by
  intro k
  induction k with
  | zero =>
    intro i hi f hik hsf hfr
    refine v_iload_n dX13_sizeOf_2 rfl 0 rfl ?_
    refine v_bipush (v := 16) dX13_sizeOf_3 (by decide) ?_
    refine v_icmp_ge (tgt := 21) dX13_sizeOf_5 (by decide) (fun c_5 => ?_) (fun c_5 => ?_)
    · exact hk hi f _ hsf hfr
    · exact absurd (show (16 : Int32) ≤ nI i from nI_le (a := 16) (by omega) (by omega)) c_5
  | succ k ih =>
    intro i hi f hik hsf hfr
    refine v_iload_n dX13_sizeOf_2 rfl 0 rfl ?_
    refine v_bipush (v := 16) dX13_sizeOf_3 (by decide) ?_
    refine v_icmp_ge (tgt := 21) dX13_sizeOf_5 (by decide) (fun c_5 => ?_) (fun c_5 => ?_)
    · exact absurd c_5 (nI_ge (b := 16) (by omega) (by omega))
    · refine v_aload_n dX13_sizeOf_8 rfl 1 rfl ?_
      refine v_getf 42 (ci := 11) (C := RX13) (T := TX13) (N := 71) rfl iwX13_sizeOf_X13 (Nat.le_of_ble_eq_true rfl) (by decide +kernel) dX13_sizeOf_9 (by first | with_reducible assumption | exact (hfr _ (by omega)).trans hmo | exact (hfr _ (by omega)).trans r1 | exact (hfr _ (by omega)).trans hh1 | exact (hfr _ (by omega)).trans hh2) (by repeat (first | with_reducible assumption | (with_reducible refine (sv_ls (by first | omega | (simp only [List.length_set]; omega))).trans ?_; exact rfl) | with_reducible refine (List.getElem?_set_ne (by decide)).trans ?_)) ?_
      refine v_iload_n dX13_sizeOf_12 rfl 0 rfl ?_
      refine v_lconst (v := 0) dX13_sizeOf_13 (by decide) ?_
      refine v_last dX13_sizeOf_14 (by first | with_reducible assumption | exact (hfr _ (by omega)).trans hmo | exact (hfr _ (by omega)).trans r1 | exact (hfr _ (by omega)).trans hh1 | exact (hfr _ (by omega)).trans hh2) (vp_in_nI (by omega) (by omega)) ?_
      refine v_iinc (j := 0) (L' := [(2, _), (0, _), (1, _)]) (v := nI (i + 1)) dX13_sizeOf_15 rfl (nI_1 _) (Nat.le_of_ble_eq_true rfl) rfl ?_
      refine v_goto (tgt := 2) dX13_sizeOf_18 (by decide) ?_
      refine v_sub (L' := [(2, _), (0, _), (1, _)]) [0, 1, 2] rfl ?_
      exact ih (i + 1) _ _ (by omega) sv_us (fun w q => (sv_un q).trans (hfr w q))

set_option maxHeartbeats 4000000 in
set_option maxRecDepth 100000 in
theorem m_sizeOf (G : sv_G) (h : sv_h) (z b nc np pl : Nat) (fs : List Value) (R : Nat → Bool) (hm p3 p4 : Nat → Nat) (sz : Nat → Nat) (u : Nat → Nat → Nat → Int32) (ow gs fh fg : Nat → Int32) (gx gy : Nat → Int64) (hlen : fs.length = 71) (hmo : h (b + 220) = some (.inr (11, fs))) (f_cells : fs[2]? = some (.int (nI nc))) (f_polygons : fs[3]? = some (.int (nI np))) (f_places : fs[10]? = some (.int (nI pl))) (f_owner : fs[4]? = some (.ref (b + 221))) (f_size : fs[7]? = some (.ref (b + 224))) (f_px : fs[8]? = some (.ref (b + 225))) (f_py : fs[9]? = some (.ref (b + 226))) (f_placeIn : fs[11]? = some (.ref (b + 227))) (f_placeOf : fs[12]? = some (.ref (b + 228))) (f_sizes : fs[42]? = some (.ref (b + 248))) (r1 : ab_I G h (b + 221) 64 ow) (hgs : ab_I G h (b + 224) 64 gs) (hgx : ab_J G h (b + 225) 1024 gx) (hgy : ab_J G h (b + 226) 1024 gy) (hh1 : ab_I G h (b + 227) 32 fh) (hh2 : ab_I G h (b + 228) 32 fg) (hnc : nc ≤ 16) (hnp : np ≤ 64) (hpl : pl ≤ 32) (hpp : ∀ i, i < pl → fh i = nI (p3 i) ∧ fg i = nI (p4 i) ∧ p3 i < nc ∧ p4 i < nc) (hpo : ∀ p, p < np → ow p = nI (hm p) ∧ hm p < nc ∧ gs p = nI (sz p) ∧ sz p ≤ 16 ∧ (∀ i, i < sz p → gx (16 * p + i) = (u 0 p i).toInt64) ∧ (∀ i, i < sz p → gy (16 * p + i) = (u 1 p i).toInt64) ∧ (R p = true ↔ gm_mr (sz p) (u 0 p) (u 1 p))) (rk : Nat → Nat) (hrk : ∀ i, i < pl → rk (p4 i) < rk (p3 i)) (hrn : ∀ c, c < nc → rk c < nc) (cl : Nat) (hcl : cl < nc) (f0 : Nat → Int64) (hf0 : ab_J G h (b + 248) 16 f0) : CT G mX13_sizeOf [.ref (b + 220), .int (nI cl)] h z (fun v h1 z1 => z1 = z ∧ v = some (.long (lN (min 100000 (oc_n np pl R hm p3 p4 16 cl)))) ∧ (∃ f, ab_J G h1 (b + 248) 16 f ∧ ∀ d, d < nc → f d = lN (min 100000 (oc_n np pl R hm p3 p4 16 d))) ∧ ∀ w, w ≠ b + 248 → h1 w = h w) := by
  refine CT.of (by decide +kernel) rfl rfl (Nat.le_of_ble_eq_true rfl) ?_
  refine v_iconst (v := 0) dX13_sizeOf_0 (by decide) ?_
  refine v_istore_n (L' := [(2, _), (0, _), (1, _)]) dX13_sizeOf_1 rfl (Nat.le_of_ble_eq_true rfl) rfl ?_
  refine v_sub (L' := [(2, _), (0, _), (1, _)]) [0, 1, 2] rfl ?_
  refine l_size0 G _ h z b nc np pl fs R hm p3 p4 sz u ow gs fh fg gx gy hlen hmo f_cells f_polygons f_places f_owner f_size f_px f_py f_placeIn f_placeOf f_sizes r1 hgs hgx hgy hh1 hh2 hnc hnp hpl hpp hpo _ (fun hi f w2 j1 j2 => ?_) 16 0 h f0 rfl hf0 (fun _ _ => rfl)
  refine v_iconst (v := 0) dX13_sizeOf_21 (by decide) ?_
  refine v_istore_n (L' := [(2, _), (0, _), (1, _)]) dX13_sizeOf_22 rfl (Nat.le_of_ble_eq_true rfl) rfl ?_
  exact l_size4 G h z b nc np pl fs R hm p3 p4 sz u ow gs fh fg gx gy hlen hmo f_cells f_polygons f_places f_owner f_size f_px f_py f_placeIn f_placeOf f_sizes r1 hgs hgx hgy hh1 hh2 hnc hnp hpl hpp hpo rk hrk hrn cl hcl 16 0 hi f rfl j1 (fun d _ q => absurd q (Nat.not_lt_zero _)) j2

