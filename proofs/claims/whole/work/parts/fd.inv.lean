set_option maxHeartbeats 4000000 in
set_option maxRecDepth 100000 in
theorem m_run_o2 (G : sv_G) (h : sv_h) (z b : Nat) (fs : List Value) (hlen : fs.length = 71) (hm9 : h (b + 220) = some (.inr (11, fs))) (ri nr : Nat) (hri : ri < nr) (hnr : nr ≤ 20) (h18 : fs[18]? = some (.int (nI nr))) (c w : Int32) (x : Int32) (h2 : fs[2]? = some (.int x)) (hg : ¬ (0 ≤ c ∧ c < x)) : CT G mX13_run [.ref (b + 220), .int (nI ri), .int c, .int w] h z (fun v h1 z1 => v = some (.int 0) ∧ h1 = va_up h (b + 220) (some (.inr (11, fs.set 0 (.int 1)))) ∧ z1 = z) := by
  refine CT.of (by decide +kernel) rfl rfl (Nat.le_of_ble_eq_true rfl) ?_
  have hr0 : 0 ≤ nI ri ∧ nI ri < nI nr := ⟨nI_le (a := 0) (Nat.zero_le _) (by omega), Int32.not_le.mp (nI_ge hri (by omega))⟩
  refine v_aload_n dX13_run_0 rfl 0 rfl ?_
  refine v_aload_n dX13_run_1 rfl 0 rfl ?_
  refine v_iload_n dX13_run_2 rfl 1 rfl ?_
  refine v_callVq (M' := mX13_isRule) (n := 1) (As := [_]) (ci := 11) (r := (RX13, TX13, 71)) gX13_run_X13_isRule rfl (by decide +kernel) ⟨(Nat.le_of_ble_eq_true rfl), (Nat.le_of_ble_eq_true rfl)⟩ rfl rfl dX13_run_3 rfl ⟨(Nat.le_of_ble_eq_true rfl), (Nat.le_of_ble_eq_true rfl)⟩ (Nat.le_of_ble_eq_true rfl) (by repeat (first | with_reducible assumption | (with_reducible refine sv_us.trans ?_; exact rfl) | with_reducible refine (sv_un (by omega)).trans ?_)) rfl (m_isRule G h _ (b + 220) fs hlen hm9 (nI ri) (nI nr) h18) (fun v9 h9 y9 hq => v_pq hq ?_)
  refine v_if_eq (tgt := 17) dX13_run_6 (by decide) (fun c_6 => ?_) (fun c_6 => ?_)
  · rw [if_pos hr0] at c_6; exact absurd c_6 (by decide)
  · refine v_aload_n dX13_run_9 rfl 0 rfl ?_
    refine v_iload_n dX13_run_10 rfl 2 rfl ?_
    refine v_callVq (M' := mX13_isCell) (n := 1) (As := [_]) (ci := 11) (r := (RX13, TX13, 71)) gX13_run_X13_isCell rfl (by decide +kernel) ⟨(Nat.le_of_ble_eq_true rfl), (Nat.le_of_ble_eq_true rfl)⟩ rfl rfl dX13_run_11 rfl ⟨(Nat.le_of_ble_eq_true rfl), (Nat.le_of_ble_eq_true rfl)⟩ (Nat.le_of_ble_eq_true rfl) (by repeat (first | with_reducible assumption | (with_reducible refine sv_us.trans ?_; exact rfl) | with_reducible refine (sv_un (by omega)).trans ?_)) rfl (m_isCell G h _ (b + 220) fs hlen hm9 c x h2) (fun v9 h9 y9 hq => v_pq hq ?_)
    refine v_if_ne (tgt := 21) dX13_run_14 (by decide) (fun c_14 => ?_) (fun c_14 => ?_)
    · rw [if_neg hg] at c_14; exact absurd rfl c_14
    · refine v_iconst (v := 1) dX13_run_17 (by decide) ?_
      refine v_goto (tgt := 22) dX13_run_18 (by decide) ?_
      refine v_putf 0 (fs' := _) (ci := 11) (C := RX13) (T := TX13) (N := 71) (ty := .int) rfl iwX13_run_X13 tyX13 tyX13_ok nmX13 (Nat.le_of_ble_eq_true rfl) (by decide +kernel) rfl rfl dX13_run_22 rfl rfl (by repeat (first | with_reducible assumption | (with_reducible refine sv_us.trans ?_; exact rfl) | with_reducible refine (sv_un (by omega)).trans ?_)) (by first | omega | (simp only [List.length_set]; omega)) rfl ?_
      refine v_aload_n dX13_run_25 rfl 0 rfl ?_
      refine v_getf 0 (ci := 11) (C := RX13) (T := TX13) (N := 71) rfl iwX13_run_X13 (Nat.le_of_ble_eq_true rfl) (by decide +kernel) dX13_run_26 (by repeat (first | with_reducible assumption | (with_reducible refine sv_us.trans ?_; exact rfl) | with_reducible refine (sv_un (by omega)).trans ?_)) (by repeat (first | with_reducible assumption | (with_reducible refine (sv_ls (by first | omega | (simp only [List.length_set]; omega))).trans ?_; exact rfl) | with_reducible refine (List.getElem?_set_ne (by decide)).trans ?_)) ?_
      refine v_if_ne (tgt := 63) dX13_run_29 (by decide) (fun c_29 => ?_) (fun c_29 => ?_)
      · refine v_aload_n dX13_run_63 rfl 0 rfl ?_
        refine v_getf 0 (ci := 11) (C := RX13) (T := TX13) (N := 71) rfl iwX13_run_X13 (Nat.le_of_ble_eq_true rfl) (by decide +kernel) dX13_run_64 (by repeat (first | with_reducible assumption | (with_reducible refine sv_us.trans ?_; exact rfl) | with_reducible refine (sv_un (by omega)).trans ?_)) (by repeat (first | with_reducible assumption | (with_reducible refine (sv_ls (by first | omega | (simp only [List.length_set]; omega))).trans ?_; exact rfl) | with_reducible refine (List.getElem?_set_ne (by decide)).trans ?_)) ?_
        refine v_if_le (tgt := 72) dX13_run_67 (by decide) (fun c_67 => ?_) (fun c_67 => ?_)
        · exact absurd c_67 (by decide)
        · refine v_iconst (v := 0) dX13_run_70 (by decide) ?_
          exact v_iret rfl dX13_run_71 (Nat.le_of_ble_eq_true rfl) (Nat.le_of_ble_eq_true rfl) rfl ⟨rfl, rfl, rfl⟩
      · exact absurd c_29 (by decide)

set_option maxHeartbeats 4000000 in
set_option maxRecDepth 100000 in
theorem m_same_o2 (G : sv_G) (h : sv_h) (z b : Nat) (fs : List Value) (hlen : fs.length = 71) (hm9 : h (b + 220) = some (.inr (11, fs))) (ri nr : Nat) (hri : ri < nr) (hnr : nr ≤ 20) (h18 : fs[18]? = some (.int (nI nr))) (c : Int32) (x : Int32) (h2 : fs[2]? = some (.int x)) (hg : ¬ (0 ≤ c ∧ c < x)) : CT G mX13_same [.ref (b + 220), .int (nI ri), .int c] h z (fun v h1 z1 => v = some (.int 0) ∧ h1 = va_up h (b + 220) (some (.inr (11, fs.set 0 (.int 1)))) ∧ z1 = z) := by
  refine CT.of (by decide +kernel) rfl rfl (Nat.le_of_ble_eq_true rfl) ?_
  have hr0 : 0 ≤ nI ri ∧ nI ri < nI nr := ⟨nI_le (a := 0) (Nat.zero_le _) (by omega), Int32.not_le.mp (nI_ge hri (by omega))⟩
  refine v_aload_n dX13_same_0 rfl 0 rfl ?_
  refine v_aload_n dX13_same_1 rfl 0 rfl ?_
  refine v_iload_n dX13_same_2 rfl 1 rfl ?_
  refine v_callVq (M' := mX13_isRule) (n := 1) (As := [_]) (ci := 11) (r := (RX13, TX13, 71)) gX13_same_X13_isRule rfl (by decide +kernel) ⟨(Nat.le_of_ble_eq_true rfl), (Nat.le_of_ble_eq_true rfl)⟩ rfl rfl dX13_same_3 rfl ⟨(Nat.le_of_ble_eq_true rfl), (Nat.le_of_ble_eq_true rfl)⟩ (Nat.le_of_ble_eq_true rfl) (by repeat (first | with_reducible assumption | (with_reducible refine sv_us.trans ?_; exact rfl) | with_reducible refine (sv_un (by omega)).trans ?_)) rfl (m_isRule G h _ (b + 220) fs hlen hm9 (nI ri) (nI nr) h18) (fun v9 h9 y9 hq => v_pq hq ?_)
  refine v_if_eq (tgt := 17) dX13_same_6 (by decide) (fun c_6 => ?_) (fun c_6 => ?_)
  · rw [if_pos hr0] at c_6; exact absurd c_6 (by decide)
  · refine v_aload_n dX13_same_9 rfl 0 rfl ?_
    refine v_iload_n dX13_same_10 rfl 2 rfl ?_
    refine v_callVq (M' := mX13_isCell) (n := 1) (As := [_]) (ci := 11) (r := (RX13, TX13, 71)) gX13_same_X13_isCell rfl (by decide +kernel) ⟨(Nat.le_of_ble_eq_true rfl), (Nat.le_of_ble_eq_true rfl)⟩ rfl rfl dX13_same_11 rfl ⟨(Nat.le_of_ble_eq_true rfl), (Nat.le_of_ble_eq_true rfl)⟩ (Nat.le_of_ble_eq_true rfl) (by repeat (first | with_reducible assumption | (with_reducible refine sv_us.trans ?_; exact rfl) | with_reducible refine (sv_un (by omega)).trans ?_)) rfl (m_isCell G h _ (b + 220) fs hlen hm9 c x h2) (fun v9 h9 y9 hq => v_pq hq ?_)
    refine v_if_ne (tgt := 21) dX13_same_14 (by decide) (fun c_14 => ?_) (fun c_14 => ?_)
    · rw [if_neg hg] at c_14; exact absurd rfl c_14
    · refine v_iconst (v := 1) dX13_same_17 (by decide) ?_
      refine v_goto (tgt := 22) dX13_same_18 (by decide) ?_
      refine v_putf 0 (fs' := _) (ci := 11) (C := RX13) (T := TX13) (N := 71) (ty := .int) rfl iwX13_same_X13 tyX13 tyX13_ok nmX13 (Nat.le_of_ble_eq_true rfl) (by decide +kernel) rfl rfl dX13_same_22 rfl rfl (by repeat (first | with_reducible assumption | (with_reducible refine sv_us.trans ?_; exact rfl) | with_reducible refine (sv_un (by omega)).trans ?_)) (by first | omega | (simp only [List.length_set]; omega)) rfl ?_
      refine v_aload_n dX13_same_25 rfl 0 rfl ?_
      refine v_getf 0 (ci := 11) (C := RX13) (T := TX13) (N := 71) rfl iwX13_same_X13 (Nat.le_of_ble_eq_true rfl) (by decide +kernel) dX13_same_26 (by repeat (first | with_reducible assumption | (with_reducible refine sv_us.trans ?_; exact rfl) | with_reducible refine (sv_un (by omega)).trans ?_)) (by repeat (first | with_reducible assumption | (with_reducible refine (sv_ls (by first | omega | (simp only [List.length_set]; omega))).trans ?_; exact rfl) | with_reducible refine (List.getElem?_set_ne (by decide)).trans ?_)) ?_
      refine v_if_ne (tgt := 63) dX13_same_29 (by decide) (fun c_29 => ?_) (fun c_29 => ?_)
      · refine v_aload_n dX13_same_63 rfl 0 rfl ?_
        refine v_getf 0 (ci := 11) (C := RX13) (T := TX13) (N := 71) rfl iwX13_same_X13 (Nat.le_of_ble_eq_true rfl) (by decide +kernel) dX13_same_64 (by repeat (first | with_reducible assumption | (with_reducible refine sv_us.trans ?_; exact rfl) | with_reducible refine (sv_un (by omega)).trans ?_)) (by repeat (first | with_reducible assumption | (with_reducible refine (sv_ls (by first | omega | (simp only [List.length_set]; omega))).trans ?_; exact rfl) | with_reducible refine (List.getElem?_set_ne (by decide)).trans ?_)) ?_
        refine v_if_le (tgt := 72) dX13_same_67 (by decide) (fun c_67 => ?_) (fun c_67 => ?_)
        · exact absurd c_67 (by decide)
        · refine v_iconst (v := 0) dX13_same_70 (by decide) ?_
          exact v_iret rfl dX13_same_71 (Nat.le_of_ble_eq_true rfl) (Nat.le_of_ble_eq_true rfl) rfl ⟨rfl, rfl, rfl⟩
      · exact absurd c_29 (by decide)

theorem ab_fs_mfq {b : Nat} {k : Int32} {nc np pl tn nr nl : Nat} {lq lf : Int32} {nw : Nat} {fs : List Value} (H : ab_fs b k nc np pl tn nr nl lq lf nw fs) : mfq_ b nc np pl fs := ⟨H.1, (List.forall_mem_cons.mpr ⟨H.f_cells, (List.forall_mem_cons.mpr ⟨H.f_polygons, (List.forall_mem_cons.mpr ⟨H.f_places, (List.forall_mem_cons.mpr ⟨H.f_owner, (List.forall_mem_cons.mpr ⟨H.f_layer, (List.forall_mem_cons.mpr ⟨H.f_volts, (List.forall_mem_cons.mpr ⟨H.f_size, (List.forall_mem_cons.mpr ⟨H.f_px, (List.forall_mem_cons.mpr ⟨H.f_py, (List.forall_mem_cons.mpr ⟨H.f_placeIn, (List.forall_mem_cons.mpr ⟨H.f_placeOf, (List.forall_mem_cons.mpr ⟨H.f_placeX, (List.forall_mem_cons.mpr ⟨H.f_placeY, (List.forall_mem_cons.mpr ⟨H.f_turns, (List.forall_mem_cons.mpr ⟨H.f_kind, (List.forall_mem_cons.mpr ⟨H.f_layerA, (List.forall_mem_cons.mpr ⟨H.f_layerB, (List.forall_mem_cons.mpr ⟨H.f_bound, (List.forall_mem_cons.mpr ⟨H.f_run, (List.forall_mem_cons.mpr ⟨H.f_volt, (List.forall_mem_cons.mpr ⟨H.f_end, (List.forall_mem_cons.mpr ⟨H.f_told, (List.forall_mem_cons.mpr ⟨H.f_waivedAt, (List.forall_mem_cons.mpr ⟨H.f_under, (List.forall_mem_cons.mpr ⟨H.f_polygon, (List.forall_mem_cons.mpr ⟨H.f_depth, (List.forall_mem_cons.mpr ⟨H.f_way, (List.forall_mem_cons.mpr ⟨H.f_stack, (List.forall_mem_cons.mpr ⟨H.f_sizes, (List.forall_mem_cons.mpr ⟨H.f_sides, (List.forall_mem_cons.mpr ⟨H.f_cx, (List.forall_mem_cons.mpr ⟨H.f_cy, (List.forall_mem_cons.mpr ⟨H.f_toTheLeft, (List.forall_mem_cons.mpr ⟨H.f_face, (List.forall_mem_cons.mpr ⟨H.f_pos, (List.forall_mem_cons.mpr ⟨H.f_low, (List.forall_mem_cons.mpr ⟨H.f_high, (List.forall_mem_cons.mpr ⟨H.f_ofPolygon, (List.forall_mem_cons.mpr ⟨H.f_order, (List.forall_mem_cons.mpr ⟨H.f_flatTold, (List.forall_mem_cons.mpr ⟨H.f_met, (fun _ h => absurd h (List.not_mem_nil))⟩)⟩)⟩)⟩)⟩)⟩)⟩)⟩)⟩)⟩)⟩)⟩)⟩)⟩)⟩)⟩)⟩)⟩)⟩)⟩)⟩)⟩)⟩)⟩)⟩)⟩)⟩)⟩)⟩)⟩)⟩)⟩)⟩)⟩)⟩)⟩)⟩)⟩)⟩)⟩)⟩)⟩
theorem ab_fs_to {b : Nat} {k : Int32} {nc np pl tn nr nl : Nat} {lq lf : Int32} {nw : Nat} {fs : List Value} {nl1 : Nat} {lq1 lf1 : Int32} {fs1 : List Value} {S : List Nat} (H : ab_fs b k nc np pl tn nr nl lq lf nw fs) (hl : fs1.length = 71) (hE : fsE S fs fs1) (hS : ∀ j, j ∈ [1, 2, 3, 4, 5, 6, 7, 8, 9, 10, 11, 12, 13, 14, 15, 16, 17, 18, 19, 20, 21, 22, 23, 24, 25, 26, 27, 33, 34, 35, 37, 38, 39, 40, 42, 43, 44, 45, 46, 47, 48, 49, 50, 51, 63, 65, 66] → ¬ j ∈ S) (h58 : ∃ r : Int32, fs1[58]? = some (.int r)) (e30 : fs1[30]? = some (.int (nI nl1))) (e31 : fs1[31]? = some (.int lq1)) (e32 : fs1[32]? = some (.int lf1)) : ab_fs b k nc np pl tn nr nl1 lq1 lf1 nw fs1 := by
  obtain ⟨_, _, q1, q2, q3, q4, q5, q6, q7, q8, q9, q10, q11, q12, q13, q14, q15, q16, q17, q18, q19, q20, q21, q22, q23, q24, q25, q26, q27, q30, q31, q32, q33, q34, q35, q37, q38, q39, q40, q42, q43, q44, q45, q46, q47, q48, q49, q50, q51, q63, q65, q66⟩ := H
  exact ⟨hl, h58, (hE 1 (hS 1 (by decide))).trans q1, (hE 2 (hS 2 (by decide))).trans q2, (hE 3 (hS 3 (by decide))).trans q3, (hE 4 (hS 4 (by decide))).trans q4, (hE 5 (hS 5 (by decide))).trans q5, (hE 6 (hS 6 (by decide))).trans q6, (hE 7 (hS 7 (by decide))).trans q7, (hE 8 (hS 8 (by decide))).trans q8, (hE 9 (hS 9 (by decide))).trans q9, (hE 10 (hS 10 (by decide))).trans q10, (hE 11 (hS 11 (by decide))).trans q11, (hE 12 (hS 12 (by decide))).trans q12, (hE 13 (hS 13 (by decide))).trans q13, (hE 14 (hS 14 (by decide))).trans q14, (hE 15 (hS 15 (by decide))).trans q15, (hE 16 (hS 16 (by decide))).trans q16, (hE 17 (hS 17 (by decide))).trans q17, (hE 18 (hS 18 (by decide))).trans q18, (hE 19 (hS 19 (by decide))).trans q19, (hE 20 (hS 20 (by decide))).trans q20, (hE 21 (hS 21 (by decide))).trans q21, (hE 22 (hS 22 (by decide))).trans q22, (hE 23 (hS 23 (by decide))).trans q23, (hE 24 (hS 24 (by decide))).trans q24, (hE 25 (hS 25 (by decide))).trans q25, (hE 26 (hS 26 (by decide))).trans q26, (hE 27 (hS 27 (by decide))).trans q27, e30, e31, e32, (hE 33 (hS 33 (by decide))).trans q33, (hE 34 (hS 34 (by decide))).trans q34, (hE 35 (hS 35 (by decide))).trans q35, (hE 37 (hS 37 (by decide))).trans q37, (hE 38 (hS 38 (by decide))).trans q38, (hE 39 (hS 39 (by decide))).trans q39, (hE 40 (hS 40 (by decide))).trans q40, (hE 42 (hS 42 (by decide))).trans q42, (hE 43 (hS 43 (by decide))).trans q43, (hE 44 (hS 44 (by decide))).trans q44, (hE 45 (hS 45 (by decide))).trans q45, (hE 46 (hS 46 (by decide))).trans q46, (hE 47 (hS 47 (by decide))).trans q47, (hE 48 (hS 48 (by decide))).trans q48, (hE 49 (hS 49 (by decide))).trans q49, (hE 50 (hS 50 (by decide))).trans q50, (hE 51 (hS 51 (by decide))).trans q51, (hE 63 (hS 63 (by decide))).trans q63, (hE 65 (hS 65 (by decide))).trans q65, (hE 66 (hS 66 (by decide))).trans q66⟩
theorem ab_mru {G : sv_G} {h : sv_h} {b nr : Nat} {r : Nat → Nat → Int32} (H : ab_MRule G h b nr r) {ri kd : Nat} (hri : ri < nr) (hnr : nr ≤ 20) (hkd : kd < 11) (e : r 0 ri = nI kd) : mru_ G h b ri kd (r 1 ri) (r 2 ri) (r 3 ri) (r 4 ri) (r 5 ri) (r 6 ri) := by
  obtain ⟨⟨f0, a0, b0⟩, ⟨f1, a1, b1⟩, ⟨f2, a2, b2⟩, ⟨f3, a3, b3⟩, ⟨f4, a4, b4⟩, ⟨f5, a5, b5⟩, ⟨f6, a6, b6⟩, _⟩ := H
  exact ⟨by omega, hkd, ⟨f0, a0, (b0 ri hri).trans e⟩, ⟨f1, a1, b1 ri hri⟩, ⟨f2, a2, b2 ri hri⟩, ⟨f3, a3, (b3 ri hri).trans (jN_i _).symm⟩, ⟨f4, a4, (b4 ri hri).trans (jN_i _).symm⟩, ⟨f5, a5, (b5 ri hri).trans (jN_i _).symm⟩, ⟨f6, a6, (b6 ri hri).trans (jN_i _).symm⟩⟩
theorem nI_lt7 : ∀ k, k < 11 → k < 7 → nI k < 7 := by decide
theorem ab_rlk {r : Nat → Nat → Int32} {ri kd : Nat} (hkd : kd < 11) (e : r 0 ri = nI kd) (H : ab_cd r ri) : rlk kd (r 1 ri) (r 2 ri) (r 3 ri) (r 5 ri) := by
  obtain ⟨c5, c6, c7, c9, c3⟩ := H
  refine ⟨hkd, fun q => c7 (by rw [e]; exact nI_lt7 kd hkd q), ?_, c5, fun q => c9 ?_⟩
  · rw [Int32.le_iff_toInt_le] at c3; exact c3
  · rw [e]
    rcases q with rfl | rfl
    · exact Or.inl rfl
    · exact Or.inr rfl
theorem ab_msc {G : sv_G} {h : sv_h} {b : Nat} (H : ab_MScr G h b) : msc_ G h b (fun _ => 0) (fun _ => 0) (fun _ _ => (0, 0)) := by
  obtain ⟨_, a2, a3, a4, a5, a6, ⟨f7, a7⟩, ⟨f8, a8⟩, ⟨f9, a9⟩, ⟨fA, aA⟩, ⟨fB, aB⟩, ⟨fC, aC⟩, ⟨fD, aD⟩, ⟨fE, aE⟩, ⟨fF, aF⟩, _, _, _⟩ := H
  exact ⟨a2, a3, a4, a5, a6, f7, fF, fA, fB, f8, f9, fC, fD, fE, a7, a8, a9, aA, aB, aC, aD, aE, aF, fun w hw => absurd hw (Nat.not_lt_zero w)⟩
theorem msc_ab {G : sv_G} {h : sv_h} {b : Nat} {n0 pg0 : Nat → Nat} {cc0 : Nat → Nat → Int × Int} (H : msc_ G h b n0 pg0 cc0) (a1 : ∃ f, ab_Z G h (b + 243) 16 f) (a2 : ∃ f, ab_I G h (b + 258) 1500 f) (a3 : ∃ f, ab_J G h (b + 259) 10500 f) (a4 : ∃ f, ab_Z G h (b + 260) 1500 f) : ab_MScr G h b := by
  obtain ⟨c2, c3, c4, c5, c6, f7, fF, fA, fB, f8, f9, fC, fD, fE, d7, d8, d9, dA, dB, dC, dD, dE, dF, _⟩ := H
  exact ⟨a1, c2, c3, c4, c5, c6, ⟨f7, d7⟩, ⟨f8, d8⟩, ⟨f9, d9⟩, ⟨fA, dA⟩, ⟨fB, dB⟩, ⟨fC, dC⟩, ⟨fD, dD⟩, ⟨fE, dE⟩, ⟨fF, dF⟩, a2, a3, a4⟩
/-- which cells are in cl -/
noncomputable def grB (pl : Nat) (p3 p4 : Nat → Nat) (cl d : Nat) : Bool := @decide (gr_R pl p3 p4 cl d) (Classical.propDecidable _)
theorem grB_t {pl : Nat} {p3 p4 : Nat → Nat} {cl d : Nat} : grB pl p3 p4 cl d = true ↔ gr_R pl p3 p4 cl d := by
  unfold grB
  exact @decide_eq_true_iff _ (Classical.propDecidable _)
theorem lS_l12 (pl : Nat) (p3 p4 : Nat → Nat) (mp : Nat → mvT) (Lc : Nat → List (List Int64)) : ∀ (f c : Nat) (w : List Nat) (x : List Int64), x ∈ lS pl p3 p4 mp Lc f c w → x.length = 12
  | 0, _, _, x, h => absurd h (List.not_mem_nil)
  | f + 1, c, w, x, h => by
    rw [lS_s] at h
    rcases List.mem_append.mp h with h | h
    · obtain ⟨y, _, rfl⟩ := List.mem_map.mp h
      exact mvR_len _ _
    · obtain ⟨i, _, h⟩ := List.mem_flatMap.mp h
      split at h
      · exact lS_l12 pl p3 p4 mp Lc f _ _ x h
      · exact absurd h (List.not_mem_nil)
/-- the invariant, with what a run may change -/
theorem ab_Inv_r9 {G : sv_G} {b z : Nat} {h h1 : sv_h} {k : Int32} {nc np pl : Nat} {sz : Nat → Nat} {t : Nat → Nat → Int32} {u : Nat → Nat → Nat → Int32} {pa ma : Nat → Nat} {tn : Nat} {tp : Nat → Int32} {nr : Nat} {r : Nat → Nat → Int32} {ru rd nw : Nat} {wr : Nat → Int64} {nl5 : Nat} {lr5 : Nat → Int64} {la5 fo5 fl5 : Nat} {lX5 lq5 lf5 mf5 : Int32} {fs5 : List Value} (gok : ab_ok nc np pl sz t u) (gLay : ab_Lay G h b k nc np pl sz t u pa ma) (gAd : ab_ad b np pl z pa ma) (gML : ab_MLay G h b nc np pl sz t u) (gTp : ab_Tape G h b tn tp) (gMTp : ab_MTape G h b tn tp) (gRu : ab_rows G h ru (ru + 1)) (gRd : ab_rows G h rd (rd + 1)) (gRl : ab_Rule G h (ru + 1) nr r) (gRr : ab_Rdr G h b rd k) (gMR : ab_MRule G h b nr r) (gWv : ab_wv G h b nw wr) (gMWv : ab_MWv G h b nw wr) (gru : (ru = b + 183 ∧ rd = b + 11) ∨ (ru = b + 11 ∧ rd = b + 183)) (gcd : ∀ i, i < nr → ab_cd r i)
    (e : ∀ a, a ≠ b → a ≠ b + 6 → a ≠ b + 7 → ¬ (b + 32 ≤ a ∧ a < b + 180) → a ≠ b + 182 → ¬ (b + 204 ≤ a ∧ a < b + 221) → a ≠ b + 241 → ¬ (b + 243 ≤ a ∧ a < b + 262) → h1 a = h a) (e6 : ∃ f, ab_I G h1 (b + 6) 16 f) (e7 : ∃ f, ab_I G h1 (b + 7) 16 f) (w8 : ∃ f, ab_J G h1 (b + 182) 8 f) (La5 : ab_late G h1 la5 nl5 lr5) (Fo5 : ab_any G h1 fo5) (Fl5 : ab_any G h1 fl5) (Lo5 : ab_any G h1 (b + 216)) (ML5 : ab_MLate G h1 b nl5 lr5) (Dk5 : ab_Dk G h1 b nr lX5 lf5 ru rd la5 fo5 fl5) (glq : nl5 ≠ 0 → lX5 = lq5) (gmf : mf5 = 0 ∨ mf5 = 1) (glf : lf5 = (if lq5 = -1 then 0 else mf5)) (hm5 : h1 (b + 220) = some (.inr (11, fs5))) (gfs5 : ab_fs b k nc np pl tn nr nl5 lq5 mf5 nw fs5) (Ck5 : ab_Chk G h1 b) (Sc5 : ab_MScr G h1 b) (go5 : ∃ f, h1 (b + 261) = some (.inl (G.2.2.1 1, 1, .inr (.inl f)))) : ab_Inv G b h1 z := by
  obtain ⟨f6, e6⟩ := e6
  obtain ⟨f7, e7⟩ := e7
  have gz := gAd.1
  obtain ⟨w1, w2, ⟨wf, w3, w4⟩, _⟩ := id gWv
  exact ⟨k, nc, np, pl, sz, t, u, pa, ma, tn, tp, nr, r, ru, rd, nl5, lr5, la5, fo5, fl5, nw, wr, lX5, lq5, lf5, mf5, fs5, ⟨gok, gLay.held gAd e6 e7 (fun a q1 q2 => e a (by omega) (by omega) (by omega) (by omega) (by omega) (by omega) (by omega) (by omega)) (fun a q1 q2 => e a (by omega) (by omega) (by omega) (by omega) (by omega) (by omega) (by omega) (by omega)), gAd, gML.kept (fun a q1 q2 => e a (by omega) (by omega) (by omega) (by omega) (by omega) (by omega) (by omega) (by omega))⟩, ⟨gTp.kept (fun a q1 q2 => e a (by omega) (by omega) (by omega) (by omega) (by omega) (by omega) (by omega) (by omega)), gMTp.kept (fun a q1 q2 => e a (by omega) (by omega) (by omega) (by omega) (by omega) (by omega) (by omega) (by omega))⟩, ⟨gRu.kept (by omega) (fun a q1 q2 => e a (by omega) (by omega) (by omega) (by omega) (by omega) (by omega) (by omega) (by omega)), gRd.kept (by omega) (fun a q1 q2 => e a (by omega) (by omega) (by omega) (by omega) (by omega) (by omega) (by omega) (by omega)), gRl.kept (fun a q1 q2 => e a (by omega) (by omega) (by omega) (by omega) (by omega) (by omega) (by omega) (by omega)), gRr.kept (fun a q1 q2 => e a (by omega) (by omega) (by omega) (by omega) (by omega) (by omega) (by omega) (by omega)), gMR.kept (fun a q1 q2 => e a (by omega) (by omega) (by omega) (by omega) (by omega) (by omega) (by omega) (by omega))⟩, ⟨La5, Fo5, Fl5, Lo5, ML5⟩, ⟨⟨w1, (e _ (by omega) (by omega) (by omega) (by omega) (by omega) (by omega) (by omega) (by omega)).trans w2, ⟨wf, (e _ (by omega) (by omega) (by omega) (by omega) (by omega) (by omega) (by omega) (by omega)).trans w3, w4⟩, w8⟩, gMWv.kept (fun a q1 q2 => e a (by omega) (by omega) (by omega) (by omega) (by omega) (by omega) (by omega) (by omega))⟩, ⟨Dk5, glq, ⟨gmf, gcd⟩, glf⟩, ⟨hm5, gfs5⟩, ⟨Ck5, Sc5, go5⟩⟩
