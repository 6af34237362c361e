theorem mh_.arr {G : sv_G} {b n : Nat} {tp : Nat → Int32} {fs : List Value} {h0 h h1 : sv_h} {j : Nat} {r : Int32} {gk ga gb : Nat → Int32} {gl gr gv ge nm : Nat → Int64} (Hh : mh_ G b n tp fs h0 h j r gk ga gb gl gr gv ge nm) {gk1 ga1 gb1 : Nat → Int32} {gl1 gr1 gv1 ge1 nm1 : Nat → Int64} (A : ma_ G h1 b gk1 ga1 gb1 gl1 gr1 gv1 ge1 nm1) (e : ∀ w, ¬ (b + 233 ≤ w ∧ w ≤ b + 240) → h1 w = h w) : mh_ G b n tp fs h0 h1 j r gk1 ga1 gb1 gl1 gr1 gv1 ge1 nm1 := by
  obtain ⟨⟨F, k1, k2⟩, ⟨f, t1, t2⟩, _, fr⟩ := Hh
  exact ⟨⟨F, (e _ (by omega)).trans k1, k2⟩, ⟨f, (e _ (by omega)).trans t1, t2⟩, A, fun w q1 q2 => (e w q2).trans (fr w q1 q2)⟩
theorem sv_if1 {c : Prop} [Decidable c] : ((if c then 1 else 0 : Int32) = 1) ↔ c := by
  by_cases h : c
  · rw [if_pos h]; exact ⟨fun _ => h, fun _ => rfl⟩
  · rw [if_neg h]; exact ⟨fun q => absurd q (by decide), fun q => absurd q h⟩
theorem sv_if01 {c : Prop} [Decidable c] : (if c then 1 else 0 : Int32) = 0 ∨ (if c then 1 else 0 : Int32) = 1 := by
  by_cases h : c
  · rw [if_pos h]; exact Or.inr rfl
  · rw [if_neg h]; exact Or.inl rfl
set_option maxHeartbeats 4000000 in
set_option maxRecDepth 100000 in
theorem t_rE (G : sv_G) (Qr : Option Value → sv_h → Nat → Prop) (h0 h : sv_h) (z b n : Nat) (tp : Nat → Int32) (fs : List Value) (ly : Int32) (X : mx_ b n tp fs ly) (j : Nat) (r : Int32) (gk ga gb : Nat → Int32) (gl gr gv ge nm : Nat → Int64) (Hh : mh_ G b n tp fs h0 h j r gk ga gb gl gr gv ge nm) (hr : r = 0 ∨ r = 1) (d : Nat) (hd : d < 20) (hk : ∀ h1 j1 r1, mh_ G b n tp fs h0 h1 j1 r1 gk ga gb gl (vp_updL gr (20 + d) (if gr (20 + d) < 1 then 1 else gr (20 + d))) gv ge nm → ((r1 = 1 ∧ (r = 1 ∧ w_sg n tp 59 j) ∧ j1 = j + 1) ∨ (r1 = 0 ∧ ¬ (r = 1 ∧ w_sg n tp 59 j) ∧ j1 = j)) → Qr none h1 z) : V G mX13_readRule (sv_MQ G mX13_readRule Qr) 233 [(2, .int (nI (20 + d))), (0, .ref (b + 220))] [] h z 0 0 := by
  obtain ⟨⟨F, hm, H⟩, ⟨f, t, u⟩, ⟨a1, a2, a3, a4, a5, a6, a7, a8⟩, fr⟩ := id Hh
  obtain ⟨g0, g1, g2, g3, g4, g5, g6, g7⟩ := id H
  have hlen := g0
  have f_layers := (g7 1 (by decide) (by decide) (by decide) (by decide)).trans X.2.2.1
  have f_kind := (g7 19 (by decide) (by decide) (by decide) (by decide)).trans X.2.2.2.1
  have f_layerA := (g7 20 (by decide) (by decide) (by decide) (by decide)).trans X.2.2.2.2.1
  have f_layerB := (g7 21 (by decide) (by decide) (by decide) (by decide)).trans X.2.2.2.2.2.1
  have f_bound := (g7 22 (by decide) (by decide) (by decide) (by decide)).trans X.2.2.2.2.2.2.1
  have f_run := (g7 23 (by decide) (by decide) (by decide) (by decide)).trans X.2.2.2.2.2.2.2.1
  have f_volt := (g7 24 (by decide) (by decide) (by decide) (by decide)).trans X.2.2.2.2.2.2.2.2.1
  have f_end := (g7 25 (by decide) (by decide) (by decide) (by decide)).trans X.2.2.2.2.2.2.2.2.2.1
  have f_names := (g7 26 (by decide) (by decide) (by decide) (by decide)).trans X.2.2.2.2.2.2.2.2.2.2
  refine v_aload_n dX13_readRule_233 rfl 1 rfl ?_
  refine v_aload_n dX13_readRule_234 rfl 1 rfl ?_
  refine v_bipush (v := 59) dX13_readRule_235 (by decide) ?_
  refine v_callVq (M' := mX13_is) (n := 1) (As := [_]) (ci := 11) (r := (RX13, TX13, 71)) gX13_readRule_X13_is rfl (by decide +kernel) ⟨(Nat.le_of_ble_eq_true rfl), (Nat.le_of_ble_eq_true rfl)⟩ rfl rfl dX13_readRule_237 rfl ⟨(Nat.le_of_ble_eq_true rfl), (Nat.le_of_ble_eq_true rfl)⟩ (Nat.le_of_ble_eq_true rfl) (by repeat (first | with_reducible assumption | (with_reducible refine sv_us.trans ?_; exact rfl) | with_reducible refine (sv_un (by omega)).trans ?_)) rfl (m_isH G _ _ _ _ _ _ _ _ X _ _ _ _ _ _ _ _ _ _ Hh 59 (by decide)) (fun v h1 z1 hq => v_pq hq ?_)
  refine v_callVq (M' := mX13_take_) (n := 1) (As := [_]) (ci := 11) (r := (RX13, TX13, 71)) gX13_readRule_X13_take_ rfl (by decide +kernel) ⟨(Nat.le_of_ble_eq_true rfl), (Nat.le_of_ble_eq_true rfl)⟩ rfl rfl dX13_readRule_240 rfl ⟨(Nat.le_of_ble_eq_true rfl), (Nat.le_of_ble_eq_true rfl)⟩ (Nat.le_of_ble_eq_true rfl) (by repeat (first | with_reducible assumption | (with_reducible refine sv_us.trans ?_; exact rfl) | with_reducible refine (sv_un (by omega)).trans ?_)) rfl (m_takeH G _ _ _ _ _ _ _ _ X _ _ _ _ _ _ _ _ _ _ Hh _ hr (by first | exact sv_if01 | exact Or.inl rfl | exact Or.inr rfl)) (fun v h1 z1 hq => ?_)
  obtain ⟨rfl, rfl, j1, r1, Hh1, e1⟩ := hq
  obtain ⟨⟨F1, hm1, H1⟩, ⟨f1, t1, u1⟩, ⟨a11, a21, a31, a41, a51, a61, a71, a81⟩, fr1⟩ := id Hh1
  obtain ⟨g01, g11, g21, g31, g41, g51, g61, g71⟩ := id H1
  have hlen1 := g01
  have f_layers1 := (g71 1 (by decide) (by decide) (by decide) (by decide)).trans X.2.2.1
  have f_kind1 := (g71 19 (by decide) (by decide) (by decide) (by decide)).trans X.2.2.2.1
  have f_layerA1 := (g71 20 (by decide) (by decide) (by decide) (by decide)).trans X.2.2.2.2.1
  have f_layerB1 := (g71 21 (by decide) (by decide) (by decide) (by decide)).trans X.2.2.2.2.2.1
  have f_bound1 := (g71 22 (by decide) (by decide) (by decide) (by decide)).trans X.2.2.2.2.2.2.1
  have f_run1 := (g71 23 (by decide) (by decide) (by decide) (by decide)).trans X.2.2.2.2.2.2.2.1
  have f_volt1 := (g71 24 (by decide) (by decide) (by decide) (by decide)).trans X.2.2.2.2.2.2.2.2.1
  have f_end1 := (g71 25 (by decide) (by decide) (by decide) (by decide)).trans X.2.2.2.2.2.2.2.2.2.1
  have f_names1 := (g71 26 (by decide) (by decide) (by decide) (by decide)).trans X.2.2.2.2.2.2.2.2.2.2
  have f_right1 := g41
  refine v_aload_n dX13_readRule_243 rfl 1 rfl ?_
  refine v_getf 23 (ci := 11) (C := RX13) (T := TX13) (N := 71) rfl iwX13_readRule_X13 (Nat.le_of_ble_eq_true rfl) (by decide +kernel) dX13_readRule_244 (by repeat (first | with_reducible assumption | (with_reducible refine sv_us.trans ?_; exact rfl) | with_reducible refine (sv_un (by omega)).trans ?_)) (by repeat (first | with_reducible assumption | (with_reducible refine (sv_ls (by first | omega | (simp only [List.length_set]; omega))).trans ?_; exact rfl) | with_reducible refine (List.getElem?_set_ne (by decide)).trans ?_)) ?_
  refine v_iload_n dX13_readRule_247 rfl 0 rfl ?_
  refine v_aload_n dX13_readRule_248 rfl 1 rfl ?_
  refine v_getf 23 (ci := 11) (C := RX13) (T := TX13) (N := 71) rfl iwX13_readRule_X13 (Nat.le_of_ble_eq_true rfl) (by decide +kernel) dX13_readRule_249 (by repeat (first | with_reducible assumption | (with_reducible refine sv_us.trans ?_; exact rfl) | with_reducible refine (sv_un (by omega)).trans ?_)) (by repeat (first | with_reducible assumption | (with_reducible refine (sv_ls (by first | omega | (simp only [List.length_set]; omega))).trans ?_; exact rfl) | with_reducible refine (List.getElem?_set_ne (by decide)).trans ?_)) ?_
  refine v_iload_n dX13_readRule_252 rfl 0 rfl ?_
  refine v_laldS (v := gr (20 + d)) dX13_readRule_253 (by repeat (first | with_reducible assumption | (with_reducible refine sv_us.trans ?_; exact rfl) | with_reducible refine (sv_un (by omega)).trans ?_)) (vp_in_nI (by omega) (by omega)) (by rw [nI_clamp (by omega)]) ?_
  refine v_lconst (v := 1) dX13_readRule_254 (by decide) ?_
  refine v_lcmp_ge (tgt := 263) dX13_readRule_255 dX13_readRule_256 (by decide) (fun c_256 => ?_) (fun c_256 => ?_)
  · refine v_aload_n dX13_readRule_263 rfl 1 rfl ?_
    refine v_getf 23 (ci := 11) (C := RX13) (T := TX13) (N := 71) rfl iwX13_readRule_X13 (Nat.le_of_ble_eq_true rfl) (by decide +kernel) dX13_readRule_264 (by repeat (first | with_reducible assumption | (with_reducible refine sv_us.trans ?_; exact rfl) | with_reducible refine (sv_un (by omega)).trans ?_)) (by repeat (first | with_reducible assumption | (with_reducible refine (sv_ls (by first | omega | (simp only [List.length_set]; omega))).trans ?_; exact rfl) | with_reducible refine (List.getElem?_set_ne (by decide)).trans ?_)) ?_
    refine v_iload_n dX13_readRule_267 rfl 0 rfl ?_
    refine v_laldS (v := gr (20 + d)) dX13_readRule_268 (by repeat (first | with_reducible assumption | (with_reducible refine sv_us.trans ?_; exact rfl) | with_reducible refine (sv_un (by omega)).trans ?_)) (vp_in_nI (by omega) (by omega)) (by rw [nI_clamp (by omega)]) ?_
    refine v_last dX13_readRule_269 (by repeat (first | with_reducible assumption | (with_reducible refine sv_us.trans ?_; exact rfl) | with_reducible refine (sv_un (by omega)).trans ?_)) (vp_in_nI (by omega) (by omega)) ?_
    exact v_ret rfl dX13_readRule_270 (Nat.le_of_ble_eq_true rfl) (Nat.le_of_ble_eq_true rfl) (by
        rw [nI_clamp (n := 20 + d) (by omega)]
        refine hk _ j1 r1 (Hh1.arr ⟨(sv_un (by omega)).trans a11, (sv_un (by omega)).trans a21, (sv_un (by omega)).trans a31, (sv_un (by omega)).trans a41, ?_, (sv_un (by omega)).trans a61, (sv_un (by omega)).trans a71, (sv_un (by omega)).trans a81⟩ (fun w q => sv_un (by omega))) ?_
        · first
          | (rw [if_pos (Int64.not_le.mp c_256)]; exact sv_us)
          | (rw [if_neg (Int64.not_lt.mpr c_256)]; exact sv_us)
        · rcases e1 with ⟨s1, s2, s3⟩ | ⟨s1, s2, s3⟩
          · exact Or.inl ⟨s1, ⟨s2.1, sv_if1.mp s2.2⟩, s3⟩
          · exact Or.inr ⟨s1, fun q => s2 ⟨q.1, sv_if1.mpr q.2⟩, s3⟩)
  · refine v_lconst (v := 1) dX13_readRule_259 (by decide) ?_
    refine v_goto (tgt := 269) dX13_readRule_260 (by decide) ?_
    refine v_last dX13_readRule_269 (by repeat (first | with_reducible assumption | (with_reducible refine sv_us.trans ?_; exact rfl) | with_reducible refine (sv_un (by omega)).trans ?_)) (vp_in_nI (by omega) (by omega)) ?_
    exact v_ret rfl dX13_readRule_270 (Nat.le_of_ble_eq_true rfl) (Nat.le_of_ble_eq_true rfl) (by
        rw [nI_clamp (n := 20 + d) (by omega)]
        refine hk _ j1 r1 (Hh1.arr ⟨(sv_un (by omega)).trans a11, (sv_un (by omega)).trans a21, (sv_un (by omega)).trans a31, (sv_un (by omega)).trans a41, ?_, (sv_un (by omega)).trans a61, (sv_un (by omega)).trans a71, (sv_un (by omega)).trans a81⟩ (fun w q => sv_un (by omega))) ?_
        · first
          | (rw [if_pos (Int64.not_le.mp c_256)]; exact sv_us)
          | (rw [if_neg (Int64.not_lt.mpr c_256)]; exact sv_us)
        · rcases e1 with ⟨s1, s2, s3⟩ | ⟨s1, s2, s3⟩
          · exact Or.inl ⟨s1, ⟨s2.1, sv_if1.mp s2.2⟩, s3⟩
          · exact Or.inr ⟨s1, fun q => s2 ⟨q.1, sv_if1.mpr q.2⟩, s3⟩)

set_option maxHeartbeats 4000000 in
set_option maxRecDepth 100000 in
theorem t_rL0 (G : sv_G) (Qr : Option Value → sv_h → Nat → Prop) (h0 h : sv_h) (z b n : Nat) (tp : Nat → Int32) (fs : List Value) (ly : Int32) (X : mx_ b n tp fs ly) (j : Nat) (r : Int32) (gk ga gb : Nat → Int32) (gl gr gv ge nm : Nat → Int64) (Hh : mh_ G b n tp fs h0 h j r gk ga gb gl gr gv ge nm) (hr0 : r = 0) (d : Nat) (hd : d < 20) (hk : ∀ h1 j1 r1, mh_ G b n tp fs h0 h1 j1 r1 gk ga gb gl (vp_updL gr (20 + d) (if gr (20 + d) < 1 then 1 else gr (20 + d))) gv ge nm → ((r1 = 1 ∧ (r = 1 ∧ w_sg n tp 59 j) ∧ j1 = j + 1) ∨ (r1 = 0 ∧ ¬ (r = 1 ∧ w_sg n tp 59 j) ∧ j1 = j)) → Qr none h1 z) : V G mX13_readRule (sv_MQ G mX13_readRule Qr) 209 [(2, .int (nI (20 + d))), (0, .ref (b + 220))] [] h z 0 0 := by
  obtain ⟨⟨F, hm, H⟩, ⟨f, t, u⟩, ⟨a1, a2, a3, a4, a5, a6, a7, a8⟩, fr⟩ := id Hh
  obtain ⟨g0, g1, g2, g3, g4, g5, g6, g7⟩ := id H
  have hlen := g0
  have f_layers := (g7 1 (by decide) (by decide) (by decide) (by decide)).trans X.2.2.1
  have f_kind := (g7 19 (by decide) (by decide) (by decide) (by decide)).trans X.2.2.2.1
  have f_layerA := (g7 20 (by decide) (by decide) (by decide) (by decide)).trans X.2.2.2.2.1
  have f_layerB := (g7 21 (by decide) (by decide) (by decide) (by decide)).trans X.2.2.2.2.2.1
  have f_bound := (g7 22 (by decide) (by decide) (by decide) (by decide)).trans X.2.2.2.2.2.2.1
  have f_run := (g7 23 (by decide) (by decide) (by decide) (by decide)).trans X.2.2.2.2.2.2.2.1
  have f_volt := (g7 24 (by decide) (by decide) (by decide) (by decide)).trans X.2.2.2.2.2.2.2.2.1
  have f_end := (g7 25 (by decide) (by decide) (by decide) (by decide)).trans X.2.2.2.2.2.2.2.2.2.1
  have f_names := (g7 26 (by decide) (by decide) (by decide) (by decide)).trans X.2.2.2.2.2.2.2.2.2.2
  have f_right := g4
  refine v_aload_n dX13_readRule_209 rfl 1 rfl ?_
  refine v_getf 70 (ci := 11) (C := RX13) (T := TX13) (N := 71) rfl iwX13_readRule_X13 (Nat.le_of_ble_eq_true rfl) (by decide +kernel) dX13_readRule_210 (by repeat (first | with_reducible assumption | (with_reducible refine sv_us.trans ?_; exact rfl) | with_reducible refine (sv_un (by omega)).trans ?_)) (by repeat (first | with_reducible assumption | (with_reducible refine (sv_ls (by first | omega | (simp only [List.length_set]; omega))).trans ?_; exact rfl) | with_reducible refine (List.getElem?_set_ne (by decide)).trans ?_)) ?_
  refine v_if_eq (tgt := 233) dX13_readRule_213 (by decide) (fun c_213 => ?_) (fun c_213 => ?_)
  · exact t_rE G Qr h0 h z b n tp fs ly X j r gk ga gb gl gr gv ge nm Hh (Or.inl hr0) d hd hk
  · exact absurd hr0 c_213

theorem cd_xb {c q : Nat} {x v : Int32} (h : x = -1 ∨ 0 ≤ x) (hv : 0 ≤ v) : cd_x c q x v = -1 ∨ 0 ≤ cd_x c q x v := by
  unfold cd_x
  split
  · exact Or.inr hv
  · exact h
theorem cd_dec {n : Nat} {tp : Nat → Int32} {k x4 x5 x6 v : Int32} {j : Nat} (hv : 0 ≤ v) (h : ¬ cd_w n tp k x4 x5 x6 j = 0) : cd_n (cd_x (cd_w n tp k x4 x5 x6 j) 1 x4 v) (cd_x (cd_w n tp k x4 x5 x6 j) 2 x5 v) (cd_x (cd_w n tp k x4 x5 x6 j) 3 x6 v) + 1 = cd_n x4 x5 x6 := by
  have hm : ¬ v = -1 := fun e => by rw [e] at hv; exact absurd hv (by decide)
  have hc : cd_w n tp k x4 x5 x6 j = 1 ∨ cd_w n tp k x4 x5 x6 j = 2 ∨ cd_w n tp k x4 x5 x6 j = 3 := by
    by_cases a : cd_w n tp k x4 x5 x6 j = 1
    · exact Or.inl a
    · by_cases c : cd_w n tp k x4 x5 x6 j = 2
      · exact Or.inr (Or.inl c)
      · by_cases e : cd_w n tp k x4 x5 x6 j = 3
        · exact Or.inr (Or.inr e)
        · exact absurd (cd_0.mpr ⟨fun q => a (cd_1.mpr q), fun q => c (cd_2.mpr q), fun q => e (cd_3.mpr q)⟩) h
  rcases hc with e | e | e
  · have p := cd_1.mp e
    rw [e, show cd_x 1 1 x4 v = v from if_pos rfl, show cd_x 1 2 x5 v = x5 from if_neg (by decide), show cd_x 1 3 x6 v = x6 from if_neg (by decide)]
    unfold cd_n
    rw [if_neg hm, if_pos p.2.1]; omega
  · have p := cd_2.mp e
    rw [e, show cd_x 2 1 x4 v = x4 from if_neg (by decide), show cd_x 2 2 x5 v = v from if_pos rfl, show cd_x 2 3 x6 v = x6 from if_neg (by decide)]
    unfold cd_n
    rw [if_neg hm, if_pos p.2.1]; omega
  · have p := cd_3.mp e
    rw [e, show cd_x 3 1 x4 v = x4 from if_neg (by decide), show cd_x 3 2 x5 v = x5 from if_neg (by decide), show cd_x 3 3 x6 v = v from if_pos rfl]
    unfold cd_n
    rw [if_neg hm, if_pos p.2.1]
theorem cd_1s {x : Int32} (h : x = -1 ∨ 0 ≤ x) : (if x.toInt64 < 1 then 1 else x.toInt64) = (if x < 1 then 1 else x).toInt64 := by
  by_cases e : x < 1
  · rw [if_pos e, if_pos (by rw [Int64.lt_iff_toInt_lt, Int32.toInt_toInt64]; rw [Int32.lt_iff_toInt_lt] at e; exact e)]; decide
  · rw [if_neg e, if_neg (fun q => e (by rw [Int64.lt_iff_toInt_lt, Int32.toInt_toInt64] at q; rw [Int32.lt_iff_toInt_lt]; exact q))]
set_option maxHeartbeats 4000000 in
set_option maxRecDepth 100000 in
theorem t_rL (G : sv_G) (Qr : Option Value → sv_h → Nat → Prop) (h0 : sv_h) (z b n : Nat) (tp : Nat → Int32) (fs : List Value) (ly : Int32) (X : mx_ b n tp fs ly) (gk ga gb : Nat → Int32) (gl nm : Nat → Int64) (d : Nat) (hd : d < 20) (k : Int32) (uk : gk (20 + d) = k) : ∀ (f : Nat) (h : sv_h) (j : Nat) (gr gv ge : Nat → Int64) (x4 x5 x6 : Int32), mh_ G b n tp fs h0 h j 1 gk ga gb gl gr gv ge nm → cd_n x4 x5 x6 < f → gr (20 + d) = x4.toInt64 → gv (20 + d) = x5.toInt64 → ge (20 + d) = x6.toInt64 → (x4 = -1 ∨ 0 ≤ x4) → (x5 = -1 ∨ 0 ≤ x5) → (x6 = -1 ∨ 0 ≤ x6) → (∀ h1 j1 r1 gr1 gv1 ge1, mh_ G b n tp fs h0 h1 j1 r1 gk ga gb gl gr1 gv1 ge1 nm → (∀ i, i ≠ 20 + d → gr1 i = gr i ∧ gv1 i = gv i ∧ ge1 i = ge i) → ((r1 = 1 ∧ ∃ y4 y5 y6, rd_cs n tp k f x4 x5 x6 j = .inr (j1, y4, y5, y6) ∧ gr1 (20 + d) = (if y4 < 1 then 1 else y4).toInt64 ∧ gv1 (20 + d) = y5.toInt64 ∧ ge1 (20 + d) = y6.toInt64) ∨ (r1 = 0 ∧ rd_cs n tp k f x4 x5 x6 j = .inl j1)) → Qr none h1 z) → V G mX13_readRule (sv_MQ G mX13_readRule Qr) 209 [(2, .int (nI (20 + d))), (0, .ref (b + 220))] [] h z 0 0 := by
  intro f
  induction f with
  | zero => exact fun h j gr gv ge x4 x5 x6 _ q => absurd q (Nat.not_lt_zero _)
  | succ f ih =>
    intro h j gr gv ge x4 x5 x6 Hh hf u4 u5 u6 v4 v5 v6 hk
    obtain ⟨⟨F, hm, H⟩, ⟨f, t, u⟩, ⟨a1, a2, a3, a4, a5, a6, a7, a8⟩, fr⟩ := id Hh
    obtain ⟨g0, g1, g2, g3, g4, g5, g6, g7⟩ := id H
    have hlen := g0
    have f_layers := (g7 1 (by decide) (by decide) (by decide) (by decide)).trans X.2.2.1
    have f_kind := (g7 19 (by decide) (by decide) (by decide) (by decide)).trans X.2.2.2.1
    have f_layerA := (g7 20 (by decide) (by decide) (by decide) (by decide)).trans X.2.2.2.2.1
    have f_layerB := (g7 21 (by decide) (by decide) (by decide) (by decide)).trans X.2.2.2.2.2.1
    have f_bound := (g7 22 (by decide) (by decide) (by decide) (by decide)).trans X.2.2.2.2.2.2.1
    have f_run := (g7 23 (by decide) (by decide) (by decide) (by decide)).trans X.2.2.2.2.2.2.2.1
    have f_volt := (g7 24 (by decide) (by decide) (by decide) (by decide)).trans X.2.2.2.2.2.2.2.2.1
    have f_end := (g7 25 (by decide) (by decide) (by decide) (by decide)).trans X.2.2.2.2.2.2.2.2.2.1
    have f_names := (g7 26 (by decide) (by decide) (by decide) (by decide)).trans X.2.2.2.2.2.2.2.2.2.2
    have f_right := g4
    refine v_aload_n dX13_readRule_209 rfl 1 rfl ?_
    refine v_getf 70 (ci := 11) (C := RX13) (T := TX13) (N := 71) rfl iwX13_readRule_X13 (Nat.le_of_ble_eq_true rfl) (by decide +kernel) dX13_readRule_210 (by repeat (first | with_reducible assumption | (with_reducible refine sv_us.trans ?_; exact rfl) | with_reducible refine (sv_un (by omega)).trans ?_)) (by repeat (first | with_reducible assumption | (with_reducible refine (sv_ls (by first | omega | (simp only [List.length_set]; omega))).trans ?_; exact rfl) | with_reducible refine (List.getElem?_set_ne (by decide)).trans ?_)) ?_
    refine v_if_eq (tgt := 233) dX13_readRule_213 (by decide) (fun c_213 => ?_) (fun c_213 => ?_)
    · exact absurd c_213 (by decide)
    · refine v_aload_n dX13_readRule_216 rfl 1 rfl ?_
      refine v_bipush (v := 59) dX13_readRule_217 (by decide) ?_
      refine v_callVq (M' := mX13_is) (n := 1) (As := [_]) (ci := 11) (r := (RX13, TX13, 71)) gX13_readRule_X13_is rfl (by decide +kernel) ⟨(Nat.le_of_ble_eq_true rfl), (Nat.le_of_ble_eq_true rfl)⟩ rfl rfl dX13_readRule_219 rfl ⟨(Nat.le_of_ble_eq_true rfl), (Nat.le_of_ble_eq_true rfl)⟩ (Nat.le_of_ble_eq_true rfl) (by repeat (first | with_reducible assumption | (with_reducible refine sv_us.trans ?_; exact rfl) | with_reducible refine (sv_un (by omega)).trans ?_)) rfl (m_isH G _ _ _ _ _ _ _ _ X _ _ _ _ _ _ _ _ _ _ Hh 59 (by decide)) (fun v h1 z1 hq => v_pq hq ?_)
      refine v_if_ne (tgt := 233) dX13_readRule_222 (by decide) (fun c_222 => ?_) (fun c_222 => ?_)
      · have hs := sv_ifn c_222
        refine t_rE G Qr _ h _ b n tp fs ly X j 1 gk ga gb gl gr gv ge nm Hh (Or.inr rfl) d hd (fun h1 j1 r1 m1 m2 => ?_)
        refine hk h1 j1 r1 _ _ _ m1 (fun i hi => ⟨pk_uLn hi, rfl, rfl⟩) (Or.inl ?_)
        rcases m2 with ⟨s1, s2, s3⟩ | ⟨s1, s2, s3⟩
        · refine ⟨s1, x4, x5, x6, ?_, ?_, u5, u6⟩
          · rw [rd_cs, if_pos hs, s3]
          · rw [pk_uLs, u4, cd_1s v4]
        · exact absurd ⟨rfl, hs⟩ s2
      · refine v_aload_n dX13_readRule_225 rfl 1 rfl ?_
        refine v_iload_n dX13_readRule_226 rfl 0 rfl ?_
        refine v_callVq (M' := mX13_condition) (n := 1) (As := [_]) (ci := 11) (r := (RX13, TX13, 71)) gX13_readRule_X13_condition rfl (by decide +kernel) ⟨(Nat.le_of_ble_eq_true rfl), (Nat.le_of_ble_eq_true rfl)⟩ rfl rfl dX13_readRule_227 rfl ⟨(Nat.le_of_ble_eq_true rfl), (Nat.le_of_ble_eq_true rfl)⟩ (Nat.le_of_ble_eq_true rfl) (by repeat (first | with_reducible assumption | (with_reducible refine sv_us.trans ?_; exact rfl) | with_reducible refine (sv_un (by omega)).trans ?_)) rfl (m_condH G _ _ _ _ _ _ _ _ X _ _ _ _ _ _ _ _ _ _ Hh rfl (20 + d) (by omega) k x4 x5 x6 uk u4 u5 u6 v4 v5 v6) (fun v h1 z1 hq => ?_)
        obtain ⟨rfl, rfl, gr1, gv1, ge1, j1, r1, Hh1, e0, e1⟩ := hq
        refine v_goto (tgt := 209) dX13_readRule_230 (by decide) ?_
        have hs := sv_ift c_222
        refine v_sub (L' := [(2, _), (0, _)]) [0, 1] rfl ?_
        rcases e1 with ⟨rfl, c1, c2, rfl, w4, w5, w6⟩ | ⟨e1, e2⟩
        · refine ih _ _ _ _ _ _ _ _ Hh1 (by have := cd_dec (n := n) (tp := tp) (k := k) (x4 := x4) (x5 := x5) (x6 := x6) (j := j) (w_nv0 c2.1) c1; omega) w4 w5 w6 (cd_xb v4 (w_nv0 c2.1)) (cd_xb v5 (w_nv0 c2.1)) (cd_xb v6 (w_nv0 c2.1)) (fun h1 j1 r1 gr2 gv2 ge2 m1 m2 m3 => ?_)
          refine hk h1 j1 r1 gr2 gv2 ge2 m1 (fun i hi => ⟨(m2 i hi).1.trans (e0 i hi).1, (m2 i hi).2.1.trans (e0 i hi).2.1, (m2 i hi).2.2.trans (e0 i hi).2.2⟩) ?_
          rw [rd_cs, if_neg hs, if_neg c1, if_pos c2]
          exact m3
        · refine t_rL0 G Qr _ _ _ b n tp fs ly X j1 r1 gk ga gb gl gr1 gv1 ge1 nm Hh1 e1 d hd (fun h1 j2 r2 m1 m2 => ?_)
          refine hk h1 j2 r2 _ _ _ m1 (fun i hi => ⟨(pk_uLn hi).trans (e0 i hi).1, (e0 i hi).2.1, (e0 i hi).2.2⟩) (Or.inr ?_)
          rcases m2 with ⟨s1, s2, s3⟩ | ⟨s1, s2, s3⟩
          · exact absurd (s2.1.symm.trans e1) (by decide)
          · refine ⟨s1, ?_⟩
            rcases e2 with ⟨c1, c2⟩ | ⟨c1, c2, c3⟩
            · rw [rd_cs, if_neg hs, if_pos c1, s3, c2]
            · rw [rd_cs, if_neg hs, if_neg c1, if_neg c2, s3, c3]

