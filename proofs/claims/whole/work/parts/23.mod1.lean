abbrev mX13_thrown : sv_M := (cX13_thrown, 1, yX13_thrown, wsX13_thrown, (some .int), { frames := 0, cells := 0, slots := 0, locals := 0 }, [])
abbrev mX13_isCell : sv_M := (cX13_isCell, 2, yX13_isCell, wsX13_isCell, (some .boolean), { frames := 0, cells := 0, slots := 0, locals := 0 }, [])
abbrev mX13_isPolygon : sv_M := (cX13_isPolygon, 2, yX13_isPolygon, wsX13_isPolygon, (some .boolean), { frames := 0, cells := 0, slots := 0, locals := 0 }, [])
abbrev mX13_isRule : sv_M := (cX13_isRule, 2, yX13_isRule, wsX13_isRule, (some .boolean), { frames := 0, cells := 0, slots := 0, locals := 0 }, [])
abbrev mX13_cell : sv_M := (cX13_cell, 1, yX13_cell, wsX13_cell, (some .int), { frames := 200, cells := 0, slots := 0, locals := 8000 }, [])
abbrev mX13_polygon : sv_M := (cX13_polygon, 3, yX13_polygon, wsX13_polygon, (some .int), { frames := 200, cells := 0, slots := 0, locals := 8000 }, [])
abbrev mX13_corner : sv_M := (cX13_corner, 7, yX13_corner, wsX13_corner, (some .boolean), { frames := 200, cells := 0, slots := 0, locals := 8000 }, [])
abbrev mX13_voltage : sv_M := (cX13_voltage, 4, yX13_voltage, wsX13_voltage, (some .boolean), { frames := 200, cells := 0, slots := 0, locals := 8000 }, [])
abbrev mX13_place : sv_M := (cX13_place, 8, yX13_place, wsX13_place, (some .int), { frames := 200, cells := 0, slots := 0, locals := 8000 }, [])
abbrev mX13_run : sv_M := (cX13_run, 6, yX13_run, wsX13_run, (some .int), { frames := 200, cells := 0, slots := 0, locals := 8000 }, [])
abbrev mX13_same : sv_M := (cX13_same, 5, yX13_same, wsX13_same, (some .boolean), { frames := 200, cells := 0, slots := 0, locals := 8000 }, [])
abbrev mX13_violation : sv_M := (cX13_violation, 3, yX13_violation, wsX13_violation, (some .long), { frames := 200, cells := 0, slots := 0, locals := 8000 }, [])
abbrev mX13_cellOf : sv_M := (cX13_cellOf, 2, yX13_cellOf, wsX13_cellOf, (some .int), { frames := 200, cells := 0, slots := 0, locals := 8000 }, [])
abbrev mX13_waive : sv_M := (cX13_waive, 6, yX13_waive, wsX13_waive, (some .boolean), { frames := 200, cells := 0, slots := 0, locals := 8000 }, [])
abbrev mX13_changed : sv_M := (cX13_changed, 12, yX13_changed, wsX13_changed, (some .int), { frames := 200, cells := 0, slots := 0, locals := 8000 }, [])
abbrev mX13_occurrences : sv_M := (cX13_occurrences, 4, yX13_occurrences, wsX13_occurrences, (some .int), { frames := 200, cells := 0, slots := 0, locals := 8000 }, [])
set_option maxHeartbeats 4000000 in
set_option maxRecDepth 100000 in
theorem m_thrown (G : sv_G) (h : sv_h) (z m : Nat) (fs : List Value) (hlen : fs.length = 71) (hm : h m = some (.inr (11, fs))) (x : Int32) (f_code : fs[0]? = some (.int x)) : CT G mX13_thrown [.ref m] h z (fun v h1 z1 => v = some (.int x) ∧ h1 = h ∧ z1 = z) := by
  refine CT.of (by decide +kernel) rfl rfl (Nat.le_of_ble_eq_true rfl) ?_
  refine v_aload_n dX13_thrown_0 rfl 0 rfl ?_
  refine v_getf 0 (ci := 11) (C := RX13) (T := TX13) (N := 71) rfl iwX13_thrown_X13 (Nat.le_of_ble_eq_true rfl) (by decide +kernel) dX13_thrown_1 (by repeat (first | (with_reducible refine sv_us.trans ?_; exact rfl) | with_reducible assumption | with_reducible refine (sv_un (by omega)).trans ?_)) (by repeat (first | with_reducible assumption | (with_reducible refine (sv_ls (by first | omega | (simp only [List.length_set]; omega))).trans ?_; exact rfl) | with_reducible refine (List.getElem?_set_ne (by decide)).trans ?_)) ?_
  exact v_iret rfl dX13_thrown_4 (Nat.le_of_ble_eq_true rfl) (Nat.le_of_ble_eq_true rfl) rfl ⟨rfl, rfl, rfl⟩

set_option maxHeartbeats 4000000 in
set_option maxRecDepth 100000 in
theorem m_isCell (G : sv_G) (h : sv_h) (z m : Nat) (fs : List Value) (hlen : fs.length = 71) (hm : h m = some (.inr (11, fs))) (c x : Int32) (f_cells : fs[2]? = some (.int x)) : CT G mX13_isCell [.ref m, .int c] h z (fun v h1 z1 => v = some (.int (if 0 ≤ c ∧ c < x then 1 else 0)) ∧ h1 = h ∧ z1 = z) := by
  refine CT.of (by decide +kernel) rfl rfl (Nat.le_of_ble_eq_true rfl) ?_
  refine v_iload_n dX13_isCell_0 rfl 1 rfl ?_
  refine v_if_lt (tgt := 16) dX13_isCell_1 (by decide) (fun c_1 => ?_) (fun c_1 => ?_)
  · refine v_iconst (v := 0) dX13_isCell_16 (by decide) ?_
    exact v_iret rfl dX13_isCell_17 (Nat.le_of_ble_eq_true rfl) (Nat.le_of_ble_eq_true rfl) rfl ⟨by simp only [Int32.lt_iff_toInt_lt, Int32.le_iff_toInt_le, sv_i0, sv_i1, sv_i2, sv_i3, sv_i4, sv_i5, sv_i6, sv_i7, sv_i8, sv_i9, sv_i10, sv_i16, sv_i17, sv_i20, sv_i32, sv_i40, sv_i64, sv_i100, sv_i126, sv_i255, sv_i600, sv_i1500, sv_i65536, sv_im1] at *; first | (rw [if_pos (by omega)]) | (rw [if_neg (by omega)]), rfl, rfl⟩
  · refine v_iload_n dX13_isCell_4 rfl 1 rfl ?_
    refine v_aload_n dX13_isCell_5 rfl 0 rfl ?_
    refine v_getf 2 (ci := 11) (C := RX13) (T := TX13) (N := 71) rfl iwX13_isCell_X13 (Nat.le_of_ble_eq_true rfl) (by decide +kernel) dX13_isCell_6 (by repeat (first | (with_reducible refine sv_us.trans ?_; exact rfl) | with_reducible assumption | with_reducible refine (sv_un (by omega)).trans ?_)) (by repeat (first | with_reducible assumption | (with_reducible refine (sv_ls (by first | omega | (simp only [List.length_set]; omega))).trans ?_; exact rfl) | with_reducible refine (List.getElem?_set_ne (by decide)).trans ?_)) ?_
    refine v_icmp_ge (tgt := 16) dX13_isCell_9 (by decide) (fun c_9 => ?_) (fun c_9 => ?_)
    · refine v_iconst (v := 0) dX13_isCell_16 (by decide) ?_
      exact v_iret rfl dX13_isCell_17 (Nat.le_of_ble_eq_true rfl) (Nat.le_of_ble_eq_true rfl) rfl ⟨by simp only [Int32.lt_iff_toInt_lt, Int32.le_iff_toInt_le, sv_i0, sv_i1, sv_i2, sv_i3, sv_i4, sv_i5, sv_i6, sv_i7, sv_i8, sv_i9, sv_i10, sv_i16, sv_i17, sv_i20, sv_i32, sv_i40, sv_i64, sv_i100, sv_i126, sv_i255, sv_i600, sv_i1500, sv_i65536, sv_im1] at *; first | (rw [if_pos (by omega)]) | (rw [if_neg (by omega)]), rfl, rfl⟩
    · refine v_iconst (v := 1) dX13_isCell_12 (by decide) ?_
      refine v_goto (tgt := 17) dX13_isCell_13 (by decide) ?_
      exact v_iret rfl dX13_isCell_17 (Nat.le_of_ble_eq_true rfl) (Nat.le_of_ble_eq_true rfl) rfl ⟨by simp only [Int32.lt_iff_toInt_lt, Int32.le_iff_toInt_le, sv_i0, sv_i1, sv_i2, sv_i3, sv_i4, sv_i5, sv_i6, sv_i7, sv_i8, sv_i9, sv_i10, sv_i16, sv_i17, sv_i20, sv_i32, sv_i40, sv_i64, sv_i100, sv_i126, sv_i255, sv_i600, sv_i1500, sv_i65536, sv_im1] at *; first | (rw [if_pos (by omega)]) | (rw [if_neg (by omega)]), rfl, rfl⟩

set_option maxHeartbeats 4000000 in
set_option maxRecDepth 100000 in
theorem m_isPolygon (G : sv_G) (h : sv_h) (z m : Nat) (fs : List Value) (hlen : fs.length = 71) (hm : h m = some (.inr (11, fs))) (c x : Int32) (f_polygons : fs[3]? = some (.int x)) : CT G mX13_isPolygon [.ref m, .int c] h z (fun v h1 z1 => v = some (.int (if 0 ≤ c ∧ c < x then 1 else 0)) ∧ h1 = h ∧ z1 = z) := by
  refine CT.of (by decide +kernel) rfl rfl (Nat.le_of_ble_eq_true rfl) ?_
  refine v_iload_n dX13_isPolygon_0 rfl 1 rfl ?_
  refine v_if_lt (tgt := 16) dX13_isPolygon_1 (by decide) (fun c_1 => ?_) (fun c_1 => ?_)
  · refine v_iconst (v := 0) dX13_isPolygon_16 (by decide) ?_
    exact v_iret rfl dX13_isPolygon_17 (Nat.le_of_ble_eq_true rfl) (Nat.le_of_ble_eq_true rfl) rfl ⟨by simp only [Int32.lt_iff_toInt_lt, Int32.le_iff_toInt_le, sv_i0, sv_i1, sv_i2, sv_i3, sv_i4, sv_i5, sv_i6, sv_i7, sv_i8, sv_i9, sv_i10, sv_i16, sv_i17, sv_i20, sv_i32, sv_i40, sv_i64, sv_i100, sv_i126, sv_i255, sv_i600, sv_i1500, sv_i65536, sv_im1] at *; first | (rw [if_pos (by omega)]) | (rw [if_neg (by omega)]), rfl, rfl⟩
  · refine v_iload_n dX13_isPolygon_4 rfl 1 rfl ?_
    refine v_aload_n dX13_isPolygon_5 rfl 0 rfl ?_
    refine v_getf 3 (ci := 11) (C := RX13) (T := TX13) (N := 71) rfl iwX13_isPolygon_X13 (Nat.le_of_ble_eq_true rfl) (by decide +kernel) dX13_isPolygon_6 (by repeat (first | (with_reducible refine sv_us.trans ?_; exact rfl) | with_reducible assumption | with_reducible refine (sv_un (by omega)).trans ?_)) (by repeat (first | with_reducible assumption | (with_reducible refine (sv_ls (by first | omega | (simp only [List.length_set]; omega))).trans ?_; exact rfl) | with_reducible refine (List.getElem?_set_ne (by decide)).trans ?_)) ?_
    refine v_icmp_ge (tgt := 16) dX13_isPolygon_9 (by decide) (fun c_9 => ?_) (fun c_9 => ?_)
    · refine v_iconst (v := 0) dX13_isPolygon_16 (by decide) ?_
      exact v_iret rfl dX13_isPolygon_17 (Nat.le_of_ble_eq_true rfl) (Nat.le_of_ble_eq_true rfl) rfl ⟨by simp only [Int32.lt_iff_toInt_lt, Int32.le_iff_toInt_le, sv_i0, sv_i1, sv_i2, sv_i3, sv_i4, sv_i5, sv_i6, sv_i7, sv_i8, sv_i9, sv_i10, sv_i16, sv_i17, sv_i20, sv_i32, sv_i40, sv_i64, sv_i100, sv_i126, sv_i255, sv_i600, sv_i1500, sv_i65536, sv_im1] at *; first | (rw [if_pos (by omega)]) | (rw [if_neg (by omega)]), rfl, rfl⟩
    · refine v_iconst (v := 1) dX13_isPolygon_12 (by decide) ?_
      refine v_goto (tgt := 17) dX13_isPolygon_13 (by decide) ?_
      exact v_iret rfl dX13_isPolygon_17 (Nat.le_of_ble_eq_true rfl) (Nat.le_of_ble_eq_true rfl) rfl ⟨by simp only [Int32.lt_iff_toInt_lt, Int32.le_iff_toInt_le, sv_i0, sv_i1, sv_i2, sv_i3, sv_i4, sv_i5, sv_i6, sv_i7, sv_i8, sv_i9, sv_i10, sv_i16, sv_i17, sv_i20, sv_i32, sv_i40, sv_i64, sv_i100, sv_i126, sv_i255, sv_i600, sv_i1500, sv_i65536, sv_im1] at *; first | (rw [if_pos (by omega)]) | (rw [if_neg (by omega)]), rfl, rfl⟩

set_option maxHeartbeats 4000000 in
set_option maxRecDepth 100000 in
theorem m_isRule (G : sv_G) (h : sv_h) (z m : Nat) (fs : List Value) (hlen : fs.length = 71) (hm : h m = some (.inr (11, fs))) (c x : Int32) (f_rules : fs[18]? = some (.int x)) : CT G mX13_isRule [.ref m, .int c] h z (fun v h1 z1 => v = some (.int (if 0 ≤ c ∧ c < x then 1 else 0)) ∧ h1 = h ∧ z1 = z) := by
  refine CT.of (by decide +kernel) rfl rfl (Nat.le_of_ble_eq_true rfl) ?_
  refine v_iload_n dX13_isRule_0 rfl 1 rfl ?_
  refine v_if_lt (tgt := 16) dX13_isRule_1 (by decide) (fun c_1 => ?_) (fun c_1 => ?_)
  · refine v_iconst (v := 0) dX13_isRule_16 (by decide) ?_
    exact v_iret rfl dX13_isRule_17 (Nat.le_of_ble_eq_true rfl) (Nat.le_of_ble_eq_true rfl) rfl ⟨by simp only [Int32.lt_iff_toInt_lt, Int32.le_iff_toInt_le, sv_i0, sv_i1, sv_i2, sv_i3, sv_i4, sv_i5, sv_i6, sv_i7, sv_i8, sv_i9, sv_i10, sv_i16, sv_i17, sv_i20, sv_i32, sv_i40, sv_i64, sv_i100, sv_i126, sv_i255, sv_i600, sv_i1500, sv_i65536, sv_im1] at *; first | (rw [if_pos (by omega)]) | (rw [if_neg (by omega)]), rfl, rfl⟩
  · refine v_iload_n dX13_isRule_4 rfl 1 rfl ?_
    refine v_aload_n dX13_isRule_5 rfl 0 rfl ?_
    refine v_getf 18 (ci := 11) (C := RX13) (T := TX13) (N := 71) rfl iwX13_isRule_X13 (Nat.le_of_ble_eq_true rfl) (by decide +kernel) dX13_isRule_6 (by repeat (first | (with_reducible refine sv_us.trans ?_; exact rfl) | with_reducible assumption | with_reducible refine (sv_un (by omega)).trans ?_)) (by repeat (first | with_reducible assumption | (with_reducible refine (sv_ls (by first | omega | (simp only [List.length_set]; omega))).trans ?_; exact rfl) | with_reducible refine (List.getElem?_set_ne (by decide)).trans ?_)) ?_
    refine v_icmp_ge (tgt := 16) dX13_isRule_9 (by decide) (fun c_9 => ?_) (fun c_9 => ?_)
    · refine v_iconst (v := 0) dX13_isRule_16 (by decide) ?_
      exact v_iret rfl dX13_isRule_17 (Nat.le_of_ble_eq_true rfl) (Nat.le_of_ble_eq_true rfl) rfl ⟨by simp only [Int32.lt_iff_toInt_lt, Int32.le_iff_toInt_le, sv_i0, sv_i1, sv_i2, sv_i3, sv_i4, sv_i5, sv_i6, sv_i7, sv_i8, sv_i9, sv_i10, sv_i16, sv_i17, sv_i20, sv_i32, sv_i40, sv_i64, sv_i100, sv_i126, sv_i255, sv_i600, sv_i1500, sv_i65536, sv_im1] at *; first | (rw [if_pos (by omega)]) | (rw [if_neg (by omega)]), rfl, rfl⟩
    · refine v_iconst (v := 1) dX13_isRule_12 (by decide) ?_
      refine v_goto (tgt := 17) dX13_isRule_13 (by decide) ?_
      exact v_iret rfl dX13_isRule_17 (Nat.le_of_ble_eq_true rfl) (Nat.le_of_ble_eq_true rfl) rfl ⟨by simp only [Int32.lt_iff_toInt_lt, Int32.le_iff_toInt_le, sv_i0, sv_i1, sv_i2, sv_i3, sv_i4, sv_i5, sv_i6, sv_i7, sv_i8, sv_i9, sv_i10, sv_i16, sv_i17, sv_i20, sv_i32, sv_i40, sv_i64, sv_i100, sv_i126, sv_i255, sv_i600, sv_i1500, sv_i65536, sv_im1] at *; first | (rw [if_pos (by omega)]) | (rw [if_neg (by omega)]), rfl, rfl⟩

set_option maxHeartbeats 4000000 in
set_option maxRecDepth 100000 in
theorem m_polygon_o (G : sv_G) (h : sv_h) (z m : Nat) (fs : List Value) (hlen : fs.length = 71) (hm : h m = some (.inr (11, fs))) (c l : Int32) (x : Int32) (f_cells : fs[2]? = some (.int x)) (hg : ¬ (0 ≤ c ∧ c < x)) : CT G mX13_polygon [.ref m, .int c, .int l] h z (fun v h1 z1 => v = some (.int 0) ∧ h1 = va_up h m (some (.inr (11, fs.set 0 (.int 1)))) ∧ z1 = z) := by
  refine CT.of (by decide +kernel) rfl rfl (Nat.le_of_ble_eq_true rfl) ?_
  refine v_aload_n dX13_polygon_0 rfl 0 rfl ?_
  refine v_aload_n dX13_polygon_1 rfl 0 rfl ?_
  refine v_iload_n dX13_polygon_2 rfl 1 rfl ?_
  refine v_callV (M' := mX13_isCell) (n := 1) (As := [_]) (ci := 11) (r := (RX13, TX13, 71)) gX13_polygon_X13_isCell rfl (by decide +kernel) ⟨(Nat.le_of_ble_eq_true rfl), (Nat.le_of_ble_eq_true rfl)⟩ rfl rfl dX13_polygon_3 rfl ⟨(Nat.le_of_ble_eq_true rfl), (Nat.le_of_ble_eq_true rfl)⟩ (Nat.le_of_ble_eq_true rfl) (by repeat (first | (with_reducible refine sv_us.trans ?_; exact rfl) | with_reducible assumption | with_reducible refine (sv_un (by omega)).trans ?_)) rfl (m_isCell G _ _ _ _ hlen hm c _ f_cells) (fun v h1 z1 hq => ?_)
  rw [if_neg hg] at hq
  obtain ⟨rfl, rfl, rfl⟩ := hq
  refine v_if_eq (tgt := 21) dX13_polygon_6 (by decide) (fun c_6 => ?_) (fun c_6 => ?_)
  · refine v_iconst (v := 1) dX13_polygon_21 (by decide) ?_
    refine v_goto (tgt := 39) dX13_polygon_22 (by decide) ?_
    refine v_putf 0 (fs' := _) (ci := 11) (C := RX13) (T := TX13) (N := 71) (ty := .int) rfl iwX13_polygon_X13 tyX13 tyX13_ok nmX13 (Nat.le_of_ble_eq_true rfl) (by decide +kernel) rfl rfl dX13_polygon_39 rfl rfl (by repeat (first | (with_reducible refine sv_us.trans ?_; exact rfl) | with_reducible assumption | with_reducible refine (sv_un (by omega)).trans ?_)) (by first | omega | (simp only [List.length_set]; omega)) rfl ?_
    refine v_aload_n dX13_polygon_42 rfl 0 rfl ?_
    refine v_getf 0 (ci := 11) (C := RX13) (T := TX13) (N := 71) rfl iwX13_polygon_X13 (Nat.le_of_ble_eq_true rfl) (by decide +kernel) dX13_polygon_43 (by repeat (first | (with_reducible refine sv_us.trans ?_; exact rfl) | with_reducible assumption | with_reducible refine (sv_un (by omega)).trans ?_)) (by repeat (first | with_reducible assumption | (with_reducible refine (sv_ls (by first | omega | (simp only [List.length_set]; omega))).trans ?_; exact rfl) | with_reducible refine (List.getElem?_set_ne (by decide)).trans ?_)) ?_
    refine v_if_le (tgt := 51) dX13_polygon_46 (by decide) (fun c_46 => ?_) (fun c_46 => ?_)
    · exact absurd c_46 (by decide)
    · refine v_iconst (v := 0) dX13_polygon_49 (by decide) ?_
      exact v_iret rfl dX13_polygon_50 (Nat.le_of_ble_eq_true rfl) (Nat.le_of_ble_eq_true rfl) rfl ⟨rfl, rfl, rfl⟩
  · exact absurd rfl c_6

set_option maxHeartbeats 4000000 in
set_option maxRecDepth 100000 in
theorem m_corner_o (G : sv_G) (h : sv_h) (z m : Nat) (fs : List Value) (hlen : fs.length = 71) (hm : h m = some (.inr (11, fs))) (c : Int32) (p r : Int64) (x : Int32) (f_polygons : fs[3]? = some (.int x)) (hg : ¬ (0 ≤ c ∧ c < x)) : CT G mX13_corner [.ref m, .int c, .long p, .long r] h z (fun v h1 z1 => v = some (.int 0) ∧ h1 = va_up h m (some (.inr (11, fs.set 0 (.int 1)))) ∧ z1 = z) := by
  refine CT.of (by decide +kernel) rfl rfl (Nat.le_of_ble_eq_true rfl) ?_
  refine v_aload_n dX13_corner_0 rfl 0 rfl ?_
  refine v_aload_n dX13_corner_1 rfl 0 rfl ?_
  refine v_iload_n dX13_corner_2 rfl 1 rfl ?_
  refine v_callV (M' := mX13_isPolygon) (n := 1) (As := [_]) (ci := 11) (r := (RX13, TX13, 71)) gX13_corner_X13_isPolygon rfl (by decide +kernel) ⟨(Nat.le_of_ble_eq_true rfl), (Nat.le_of_ble_eq_true rfl)⟩ rfl rfl dX13_corner_3 rfl ⟨(Nat.le_of_ble_eq_true rfl), (Nat.le_of_ble_eq_true rfl)⟩ (Nat.le_of_ble_eq_true rfl) (by repeat (first | (with_reducible refine sv_us.trans ?_; exact rfl) | with_reducible assumption | with_reducible refine (sv_un (by omega)).trans ?_)) rfl (m_isPolygon G _ _ _ _ hlen hm c _ f_polygons) (fun v h1 z1 hq => ?_)
  rw [if_neg hg] at hq
  obtain ⟨rfl, rfl, rfl⟩ := hq
  refine v_if_ne (tgt := 13) dX13_corner_6 (by decide) (fun c_6 => ?_) (fun c_6 => ?_)
  · exact absurd rfl c_6
  · refine v_iconst (v := 1) dX13_corner_9 (by decide) ?_
    refine v_goto (tgt := 48) dX13_corner_10 (by decide) ?_
    refine v_putf 0 (fs' := _) (ci := 11) (C := RX13) (T := TX13) (N := 71) (ty := .int) rfl iwX13_corner_X13 tyX13 tyX13_ok nmX13 (Nat.le_of_ble_eq_true rfl) (by decide +kernel) rfl rfl dX13_corner_48 rfl rfl (by repeat (first | (with_reducible refine sv_us.trans ?_; exact rfl) | with_reducible assumption | with_reducible refine (sv_un (by omega)).trans ?_)) (by first | omega | (simp only [List.length_set]; omega)) rfl ?_
    refine v_aload_n dX13_corner_51 rfl 0 rfl ?_
    refine v_getf 0 (ci := 11) (C := RX13) (T := TX13) (N := 71) rfl iwX13_corner_X13 (Nat.le_of_ble_eq_true rfl) (by decide +kernel) dX13_corner_52 (by repeat (first | (with_reducible refine sv_us.trans ?_; exact rfl) | with_reducible assumption | with_reducible refine (sv_un (by omega)).trans ?_)) (by repeat (first | with_reducible assumption | (with_reducible refine (sv_ls (by first | omega | (simp only [List.length_set]; omega))).trans ?_; exact rfl) | with_reducible refine (List.getElem?_set_ne (by decide)).trans ?_)) ?_
    refine v_if_le (tgt := 60) dX13_corner_55 (by decide) (fun c_55 => ?_) (fun c_55 => ?_)
    · exact absurd c_55 (by decide)
    · refine v_iconst (v := 0) dX13_corner_58 (by decide) ?_
      exact v_iret rfl dX13_corner_59 (Nat.le_of_ble_eq_true rfl) (Nat.le_of_ble_eq_true rfl) rfl ⟨rfl, rfl, rfl⟩

set_option maxHeartbeats 4000000 in
set_option maxRecDepth 100000 in
theorem m_voltage_o (G : sv_G) (h : sv_h) (z m : Nat) (fs : List Value) (hlen : fs.length = 71) (hm : h m = some (.inr (11, fs))) (c : Int32) (p : Int64) (x : Int32) (f_polygons : fs[3]? = some (.int x)) (hg : ¬ (0 ≤ c ∧ c < x)) : CT G mX13_voltage [.ref m, .int c, .long p] h z (fun v h1 z1 => v = some (.int 0) ∧ h1 = va_up h m (some (.inr (11, fs.set 0 (.int 1)))) ∧ z1 = z) := by
  refine CT.of (by decide +kernel) rfl rfl (Nat.le_of_ble_eq_true rfl) ?_
  refine v_aload_n dX13_voltage_0 rfl 0 rfl ?_
  refine v_aload_n dX13_voltage_1 rfl 0 rfl ?_
  refine v_iload_n dX13_voltage_2 rfl 1 rfl ?_
  refine v_callV (M' := mX13_isPolygon) (n := 1) (As := [_]) (ci := 11) (r := (RX13, TX13, 71)) gX13_voltage_X13_isPolygon rfl (by decide +kernel) ⟨(Nat.le_of_ble_eq_true rfl), (Nat.le_of_ble_eq_true rfl)⟩ rfl rfl dX13_voltage_3 rfl ⟨(Nat.le_of_ble_eq_true rfl), (Nat.le_of_ble_eq_true rfl)⟩ (Nat.le_of_ble_eq_true rfl) (by repeat (first | (with_reducible refine sv_us.trans ?_; exact rfl) | with_reducible assumption | with_reducible refine (sv_un (by omega)).trans ?_)) rfl (m_isPolygon G _ _ _ _ hlen hm c _ f_polygons) (fun v h1 z1 hq => ?_)
  rw [if_neg hg] at hq
  obtain ⟨rfl, rfl, rfl⟩ := hq
  refine v_if_ne (tgt := 13) dX13_voltage_6 (by decide) (fun c_6 => ?_) (fun c_6 => ?_)
  · exact absurd rfl c_6
  · refine v_iconst (v := 1) dX13_voltage_9 (by decide) ?_
    refine v_goto (tgt := 34) dX13_voltage_10 (by decide) ?_
    refine v_putf 0 (fs' := _) (ci := 11) (C := RX13) (T := TX13) (N := 71) (ty := .int) rfl iwX13_voltage_X13 tyX13 tyX13_ok nmX13 (Nat.le_of_ble_eq_true rfl) (by decide +kernel) rfl rfl dX13_voltage_34 rfl rfl (by repeat (first | (with_reducible refine sv_us.trans ?_; exact rfl) | with_reducible assumption | with_reducible refine (sv_un (by omega)).trans ?_)) (by first | omega | (simp only [List.length_set]; omega)) rfl ?_
    refine v_aload_n dX13_voltage_37 rfl 0 rfl ?_
    refine v_getf 0 (ci := 11) (C := RX13) (T := TX13) (N := 71) rfl iwX13_voltage_X13 (Nat.le_of_ble_eq_true rfl) (by decide +kernel) dX13_voltage_38 (by repeat (first | (with_reducible refine sv_us.trans ?_; exact rfl) | with_reducible assumption | with_reducible refine (sv_un (by omega)).trans ?_)) (by repeat (first | with_reducible assumption | (with_reducible refine (sv_ls (by first | omega | (simp only [List.length_set]; omega))).trans ?_; exact rfl) | with_reducible refine (List.getElem?_set_ne (by decide)).trans ?_)) ?_
    refine v_if_gt (tgt := 55) dX13_voltage_41 (by decide) (fun c_41 => ?_) (fun c_41 => ?_)
    · refine v_iconst (v := 0) dX13_voltage_55 (by decide) ?_
      exact v_iret rfl dX13_voltage_56 (Nat.le_of_ble_eq_true rfl) (Nat.le_of_ble_eq_true rfl) rfl ⟨rfl, rfl, rfl⟩
    · exact absurd (by decide) c_41

set_option maxHeartbeats 4000000 in
set_option maxRecDepth 100000 in
theorem m_place_o (G : sv_G) (h : sv_h) (z m : Nat) (fs : List Value) (hlen : fs.length = 71) (hm : h m = some (.inr (11, fs))) (c q w : Int32) (p r : Int64) (x : Int32) (f_cells : fs[2]? = some (.int x)) (hg : ¬ (0 ≤ c ∧ c < x)) : CT G mX13_place [.ref m, .int c, .int q, .long p, .long r, .int w] h z (fun v h1 z1 => v = some (.int 0) ∧ h1 = va_up h m (some (.inr (11, fs.set 0 (.int 1)))) ∧ z1 = z) := by
  refine CT.of (by decide +kernel) rfl rfl (Nat.le_of_ble_eq_true rfl) ?_
  refine v_aload_n dX13_place_0 rfl 0 rfl ?_
  refine v_aload_n dX13_place_1 rfl 0 rfl ?_
  refine v_iload_n dX13_place_2 rfl 1 rfl ?_
  refine v_callV (M' := mX13_isCell) (n := 1) (As := [_]) (ci := 11) (r := (RX13, TX13, 71)) gX13_place_X13_isCell rfl (by decide +kernel) ⟨(Nat.le_of_ble_eq_true rfl), (Nat.le_of_ble_eq_true rfl)⟩ rfl rfl dX13_place_3 rfl ⟨(Nat.le_of_ble_eq_true rfl), (Nat.le_of_ble_eq_true rfl)⟩ (Nat.le_of_ble_eq_true rfl) (by repeat (first | (with_reducible refine sv_us.trans ?_; exact rfl) | with_reducible assumption | with_reducible refine (sv_un (by omega)).trans ?_)) rfl (m_isCell G _ _ _ _ hlen hm c _ f_cells) (fun v h1 z1 hq => ?_)
  rw [if_neg hg] at hq
  obtain ⟨rfl, rfl, rfl⟩ := hq
  refine v_if_eq (tgt := 17) dX13_place_6 (by decide) (fun c_6 => ?_) (fun c_6 => ?_)
  · refine v_iconst (v := 1) dX13_place_17 (by decide) ?_
    refine v_goto (tgt := 66) dX13_place_18 (by decide) ?_
    refine v_putf 0 (fs' := _) (ci := 11) (C := RX13) (T := TX13) (N := 71) (ty := .int) rfl iwX13_place_X13 tyX13 tyX13_ok nmX13 (Nat.le_of_ble_eq_true rfl) (by decide +kernel) rfl rfl dX13_place_66 rfl rfl (by repeat (first | (with_reducible refine sv_us.trans ?_; exact rfl) | with_reducible assumption | with_reducible refine (sv_un (by omega)).trans ?_)) (by first | omega | (simp only [List.length_set]; omega)) rfl ?_
    refine v_aload_n dX13_place_69 rfl 0 rfl ?_
    refine v_getf 0 (ci := 11) (C := RX13) (T := TX13) (N := 71) rfl iwX13_place_X13 (Nat.le_of_ble_eq_true rfl) (by decide +kernel) dX13_place_70 (by repeat (first | (with_reducible refine sv_us.trans ?_; exact rfl) | with_reducible assumption | with_reducible refine (sv_un (by omega)).trans ?_)) (by repeat (first | with_reducible assumption | (with_reducible refine (sv_ls (by first | omega | (simp only [List.length_set]; omega))).trans ?_; exact rfl) | with_reducible refine (List.getElem?_set_ne (by decide)).trans ?_)) ?_
    refine v_if_le (tgt := 78) dX13_place_73 (by decide) (fun c_73 => ?_) (fun c_73 => ?_)
    · exact absurd c_73 (by decide)
    · refine v_iconst (v := 0) dX13_place_76 (by decide) ?_
      exact v_iret rfl dX13_place_77 (Nat.le_of_ble_eq_true rfl) (Nat.le_of_ble_eq_true rfl) rfl ⟨rfl, rfl, rfl⟩
  · exact absurd rfl c_6

set_option maxHeartbeats 4000000 in
set_option maxRecDepth 100000 in
theorem m_run_o (G : sv_G) (h : sv_h) (z m : Nat) (fs : List Value) (hlen : fs.length = 71) (hm : h m = some (.inr (11, fs))) (c q w : Int32) (x : Int32) (f_rules : fs[18]? = some (.int x)) (hg : ¬ (0 ≤ c ∧ c < x)) : CT G mX13_run [.ref m, .int c, .int q, .int w] h z (fun v h1 z1 => v = some (.int 0) ∧ h1 = va_up h m (some (.inr (11, fs.set 0 (.int 1)))) ∧ z1 = z) := by
  refine CT.of (by decide +kernel) rfl rfl (Nat.le_of_ble_eq_true rfl) ?_
  refine v_aload_n dX13_run_0 rfl 0 rfl ?_
  refine v_aload_n dX13_run_1 rfl 0 rfl ?_
  refine v_iload_n dX13_run_2 rfl 1 rfl ?_
  refine v_callV (M' := mX13_isRule) (n := 1) (As := [_]) (ci := 11) (r := (RX13, TX13, 71)) gX13_run_X13_isRule rfl (by decide +kernel) ⟨(Nat.le_of_ble_eq_true rfl), (Nat.le_of_ble_eq_true rfl)⟩ rfl rfl dX13_run_3 rfl ⟨(Nat.le_of_ble_eq_true rfl), (Nat.le_of_ble_eq_true rfl)⟩ (Nat.le_of_ble_eq_true rfl) (by repeat (first | (with_reducible refine sv_us.trans ?_; exact rfl) | with_reducible assumption | with_reducible refine (sv_un (by omega)).trans ?_)) rfl (m_isRule G _ _ _ _ hlen hm c _ f_rules) (fun v h1 z1 hq => ?_)
  rw [if_neg hg] at hq
  obtain ⟨rfl, rfl, rfl⟩ := hq
  refine v_if_eq (tgt := 17) dX13_run_6 (by decide) (fun c_6 => ?_) (fun c_6 => ?_)
  · refine v_iconst (v := 1) dX13_run_17 (by decide) ?_
    refine v_goto (tgt := 22) dX13_run_18 (by decide) ?_
    refine v_putf 0 (fs' := _) (ci := 11) (C := RX13) (T := TX13) (N := 71) (ty := .int) rfl iwX13_run_X13 tyX13 tyX13_ok nmX13 (Nat.le_of_ble_eq_true rfl) (by decide +kernel) rfl rfl dX13_run_22 rfl rfl (by repeat (first | (with_reducible refine sv_us.trans ?_; exact rfl) | with_reducible assumption | with_reducible refine (sv_un (by omega)).trans ?_)) (by first | omega | (simp only [List.length_set]; omega)) rfl ?_
    refine v_aload_n dX13_run_25 rfl 0 rfl ?_
    refine v_getf 0 (ci := 11) (C := RX13) (T := TX13) (N := 71) rfl iwX13_run_X13 (Nat.le_of_ble_eq_true rfl) (by decide +kernel) dX13_run_26 (by repeat (first | (with_reducible refine sv_us.trans ?_; exact rfl) | with_reducible assumption | with_reducible refine (sv_un (by omega)).trans ?_)) (by repeat (first | with_reducible assumption | (with_reducible refine (sv_ls (by first | omega | (simp only [List.length_set]; omega))).trans ?_; exact rfl) | with_reducible refine (List.getElem?_set_ne (by decide)).trans ?_)) ?_
    refine v_if_ne (tgt := 63) dX13_run_29 (by decide) (fun c_29 => ?_) (fun c_29 => ?_)
    · refine v_aload_n dX13_run_63 rfl 0 rfl ?_
      refine v_getf 0 (ci := 11) (C := RX13) (T := TX13) (N := 71) rfl iwX13_run_X13 (Nat.le_of_ble_eq_true rfl) (by decide +kernel) dX13_run_64 (by repeat (first | (with_reducible refine sv_us.trans ?_; exact rfl) | with_reducible assumption | with_reducible refine (sv_un (by omega)).trans ?_)) (by repeat (first | with_reducible assumption | (with_reducible refine (sv_ls (by first | omega | (simp only [List.length_set]; omega))).trans ?_; exact rfl) | with_reducible refine (List.getElem?_set_ne (by decide)).trans ?_)) ?_
      refine v_if_le (tgt := 72) dX13_run_67 (by decide) (fun c_67 => ?_) (fun c_67 => ?_)
      · exact absurd c_67 (by decide)
      · refine v_iconst (v := 0) dX13_run_70 (by decide) ?_
        exact v_iret rfl dX13_run_71 (Nat.le_of_ble_eq_true rfl) (Nat.le_of_ble_eq_true rfl) rfl ⟨rfl, rfl, rfl⟩
    · exact absurd c_29 (by decide)
  · exact absurd rfl c_6

set_option maxHeartbeats 4000000 in
set_option maxRecDepth 100000 in
theorem m_same_o (G : sv_G) (h : sv_h) (z m : Nat) (fs : List Value) (hlen : fs.length = 71) (hm : h m = some (.inr (11, fs))) (c q : Int32) (x : Int32) (f_rules : fs[18]? = some (.int x)) (hg : ¬ (0 ≤ c ∧ c < x)) : CT G mX13_same [.ref m, .int c, .int q] h z (fun v h1 z1 => v = some (.int 0) ∧ h1 = va_up h m (some (.inr (11, fs.set 0 (.int 1)))) ∧ z1 = z) := by
  refine CT.of (by decide +kernel) rfl rfl (Nat.le_of_ble_eq_true rfl) ?_
  refine v_aload_n dX13_same_0 rfl 0 rfl ?_
  refine v_aload_n dX13_same_1 rfl 0 rfl ?_
  refine v_iload_n dX13_same_2 rfl 1 rfl ?_
  refine v_callV (M' := mX13_isRule) (n := 1) (As := [_]) (ci := 11) (r := (RX13, TX13, 71)) gX13_same_X13_isRule rfl (by decide +kernel) ⟨(Nat.le_of_ble_eq_true rfl), (Nat.le_of_ble_eq_true rfl)⟩ rfl rfl dX13_same_3 rfl ⟨(Nat.le_of_ble_eq_true rfl), (Nat.le_of_ble_eq_true rfl)⟩ (Nat.le_of_ble_eq_true rfl) (by repeat (first | (with_reducible refine sv_us.trans ?_; exact rfl) | with_reducible assumption | with_reducible refine (sv_un (by omega)).trans ?_)) rfl (m_isRule G _ _ _ _ hlen hm c _ f_rules) (fun v h1 z1 hq => ?_)
  rw [if_neg hg] at hq
  obtain ⟨rfl, rfl, rfl⟩ := hq
  refine v_if_eq (tgt := 17) dX13_same_6 (by decide) (fun c_6 => ?_) (fun c_6 => ?_)
  · refine v_iconst (v := 1) dX13_same_17 (by decide) ?_
    refine v_goto (tgt := 22) dX13_same_18 (by decide) ?_
    refine v_putf 0 (fs' := _) (ci := 11) (C := RX13) (T := TX13) (N := 71) (ty := .int) rfl iwX13_same_X13 tyX13 tyX13_ok nmX13 (Nat.le_of_ble_eq_true rfl) (by decide +kernel) rfl rfl dX13_same_22 rfl rfl (by repeat (first | (with_reducible refine sv_us.trans ?_; exact rfl) | with_reducible assumption | with_reducible refine (sv_un (by omega)).trans ?_)) (by first | omega | (simp only [List.length_set]; omega)) rfl ?_
    refine v_aload_n dX13_same_25 rfl 0 rfl ?_
    refine v_getf 0 (ci := 11) (C := RX13) (T := TX13) (N := 71) rfl iwX13_same_X13 (Nat.le_of_ble_eq_true rfl) (by decide +kernel) dX13_same_26 (by repeat (first | (with_reducible refine sv_us.trans ?_; exact rfl) | with_reducible assumption | with_reducible refine (sv_un (by omega)).trans ?_)) (by repeat (first | with_reducible assumption | (with_reducible refine (sv_ls (by first | omega | (simp only [List.length_set]; omega))).trans ?_; exact rfl) | with_reducible refine (List.getElem?_set_ne (by decide)).trans ?_)) ?_
    refine v_if_ne (tgt := 63) dX13_same_29 (by decide) (fun c_29 => ?_) (fun c_29 => ?_)
    · refine v_aload_n dX13_same_63 rfl 0 rfl ?_
      refine v_getf 0 (ci := 11) (C := RX13) (T := TX13) (N := 71) rfl iwX13_same_X13 (Nat.le_of_ble_eq_true rfl) (by decide +kernel) dX13_same_64 (by repeat (first | (with_reducible refine sv_us.trans ?_; exact rfl) | with_reducible assumption | with_reducible refine (sv_un (by omega)).trans ?_)) (by repeat (first | with_reducible assumption | (with_reducible refine (sv_ls (by first | omega | (simp only [List.length_set]; omega))).trans ?_; exact rfl) | with_reducible refine (List.getElem?_set_ne (by decide)).trans ?_)) ?_
      refine v_if_le (tgt := 72) dX13_same_67 (by decide) (fun c_67 => ?_) (fun c_67 => ?_)
      · exact absurd c_67 (by decide)
      · refine v_iconst (v := 0) dX13_same_70 (by decide) ?_
        exact v_iret rfl dX13_same_71 (Nat.le_of_ble_eq_true rfl) (Nat.le_of_ble_eq_true rfl) rfl ⟨rfl, rfl, rfl⟩
    · exact absurd c_29 (by decide)
  · exact absurd rfl c_6

set_option maxHeartbeats 4000000 in
set_option maxRecDepth 100000 in
theorem m_occurrences_o (G : sv_G) (h : sv_h) (z m : Nat) (fs : List Value) (hlen : fs.length = 71) (hm : h m = some (.inr (11, fs))) (c : Int32) (x : Int32) (f_cells : fs[2]? = some (.int x)) (hg : ¬ (0 ≤ c ∧ c < x)) : CT G mX13_occurrences [.ref m, .int c] h z (fun v h1 z1 => v = some (.int 0) ∧ h1 = va_up h m (some (.inr (11, fs.set 0 (.int 1)))) ∧ z1 = z) := by
  refine CT.of (by decide +kernel) rfl rfl (Nat.le_of_ble_eq_true rfl) ?_
  refine v_aload_n dX13_occurrences_0 rfl 0 rfl ?_
  refine v_aload_n dX13_occurrences_1 rfl 0 rfl ?_
  refine v_iload_n dX13_occurrences_2 rfl 1 rfl ?_
  refine v_callV (M' := mX13_isCell) (n := 1) (As := [_]) (ci := 11) (r := (RX13, TX13, 71)) gX13_occurrences_X13_isCell rfl (by decide +kernel) ⟨(Nat.le_of_ble_eq_true rfl), (Nat.le_of_ble_eq_true rfl)⟩ rfl rfl dX13_occurrences_3 rfl ⟨(Nat.le_of_ble_eq_true rfl), (Nat.le_of_ble_eq_true rfl)⟩ (Nat.le_of_ble_eq_true rfl) (by repeat (first | (with_reducible refine sv_us.trans ?_; exact rfl) | with_reducible assumption | with_reducible refine (sv_un (by omega)).trans ?_)) rfl (m_isCell G _ _ _ _ hlen hm c _ f_cells) (fun v h1 z1 hq => ?_)
  rw [if_neg hg] at hq
  obtain ⟨rfl, rfl, rfl⟩ := hq
  refine v_if_eq (tgt := 13) dX13_occurrences_6 (by decide) (fun c_6 => ?_) (fun c_6 => ?_)
  · refine v_iconst (v := 1) dX13_occurrences_13 (by decide) ?_
    refine v_putf 0 (fs' := _) (ci := 11) (C := RX13) (T := TX13) (N := 71) (ty := .int) rfl iwX13_occurrences_X13 tyX13 tyX13_ok nmX13 (Nat.le_of_ble_eq_true rfl) (by decide +kernel) rfl rfl dX13_occurrences_14 rfl rfl (by repeat (first | (with_reducible refine sv_us.trans ?_; exact rfl) | with_reducible assumption | with_reducible refine (sv_un (by omega)).trans ?_)) (by first | omega | (simp only [List.length_set]; omega)) rfl ?_
    refine v_aload_n dX13_occurrences_17 rfl 0 rfl ?_
    refine v_getf 0 (ci := 11) (C := RX13) (T := TX13) (N := 71) rfl iwX13_occurrences_X13 (Nat.le_of_ble_eq_true rfl) (by decide +kernel) dX13_occurrences_18 (by repeat (first | (with_reducible refine sv_us.trans ?_; exact rfl) | with_reducible assumption | with_reducible refine (sv_un (by omega)).trans ?_)) (by repeat (first | with_reducible assumption | (with_reducible refine (sv_ls (by first | omega | (simp only [List.length_set]; omega))).trans ?_; exact rfl) | with_reducible refine (List.getElem?_set_ne (by decide)).trans ?_)) ?_
    refine v_if_le (tgt := 26) dX13_occurrences_21 (by decide) (fun c_21 => ?_) (fun c_21 => ?_)
    · exact absurd c_21 (by decide)
    · refine v_iconst (v := 0) dX13_occurrences_24 (by decide) ?_
      exact v_iret rfl dX13_occurrences_25 (Nat.le_of_ble_eq_true rfl) (Nat.le_of_ble_eq_true rfl) rfl ⟨rfl, rfl, rfl⟩
  · exact absurd rfl c_6

set_option maxHeartbeats 4000000 in
set_option maxRecDepth 100000 in
theorem m_violation_o (G : sv_G) (h : sv_h) (z m : Nat) (fs : List Value) (hlen : fs.length = 71) (hm : h m = some (.inr (11, fs))) (c q : Int32) (x : Int32) (f_latest : fs[30]? = some (.int x)) (hg : ¬ (0 ≤ c ∧ c < x)) : CT G mX13_violation [.ref m, .int c, .int q] h z (fun v h1 z1 => v = some (.long 0) ∧ h1 = va_up h m (some (.inr (11, fs.set 0 (.int 1)))) ∧ z1 = z) := by
  refine CT.of (by decide +kernel) rfl rfl (Nat.le_of_ble_eq_true rfl) ?_
  refine v_aload_n dX13_violation_0 rfl 0 rfl ?_
  refine v_iload_n dX13_violation_1 rfl 1 rfl ?_
  refine v_if_lt (tgt := 23) dX13_violation_2 (by decide) (fun c_2 => ?_) (fun c_2 => ?_)
  · refine v_iconst (v := 1) dX13_violation_23 (by decide) ?_
    refine v_goto (tgt := 28) dX13_violation_24 (by decide) ?_
    refine v_putf 0 (fs' := _) (ci := 11) (C := RX13) (T := TX13) (N := 71) (ty := .int) rfl iwX13_violation_X13 tyX13 tyX13_ok nmX13 (Nat.le_of_ble_eq_true rfl) (by decide +kernel) rfl rfl dX13_violation_28 rfl rfl (by repeat (first | (with_reducible refine sv_us.trans ?_; exact rfl) | with_reducible assumption | with_reducible refine (sv_un (by omega)).trans ?_)) (by first | omega | (simp only [List.length_set]; omega)) rfl ?_
    refine v_aload_n dX13_violation_31 rfl 0 rfl ?_
    refine v_getf 0 (ci := 11) (C := RX13) (T := TX13) (N := 71) rfl iwX13_violation_X13 (Nat.le_of_ble_eq_true rfl) (by decide +kernel) dX13_violation_32 (by repeat (first | (with_reducible refine sv_us.trans ?_; exact rfl) | with_reducible assumption | with_reducible refine (sv_un (by omega)).trans ?_)) (by repeat (first | with_reducible assumption | (with_reducible refine (sv_ls (by first | omega | (simp only [List.length_set]; omega))).trans ?_; exact rfl) | with_reducible refine (List.getElem?_set_ne (by decide)).trans ?_)) ?_
    refine v_if_le (tgt := 42) dX13_violation_35 (by decide) (fun c_35 => ?_) (fun c_35 => ?_)
    · exact absurd c_35 (by decide)
    · refine v_lconst (v := 0) dX13_violation_38 (by decide) ?_
      refine v_goto (tgt := 57) dX13_violation_39 (by decide) ?_
      exact v_lret rfl dX13_violation_57 (Nat.le_of_ble_eq_true rfl) (Nat.le_of_ble_eq_true rfl) ⟨rfl, rfl, rfl⟩
  · refine v_iload_n dX13_violation_5 rfl 1 rfl ?_
    refine v_aload_n dX13_violation_6 rfl 0 rfl ?_
    refine v_getf 30 (ci := 11) (C := RX13) (T := TX13) (N := 71) rfl iwX13_violation_X13 (Nat.le_of_ble_eq_true rfl) (by decide +kernel) dX13_violation_7 (by repeat (first | (with_reducible refine sv_us.trans ?_; exact rfl) | with_reducible assumption | with_reducible refine (sv_un (by omega)).trans ?_)) (by repeat (first | with_reducible assumption | (with_reducible refine (sv_ls (by first | omega | (simp only [List.length_set]; omega))).trans ?_; exact rfl) | with_reducible refine (List.getElem?_set_ne (by decide)).trans ?_)) ?_
    refine v_icmp_ge (tgt := 23) dX13_violation_10 (by decide) (fun c_10 => ?_) (fun c_10 => ?_)
    · refine v_iconst (v := 1) dX13_violation_23 (by decide) ?_
      refine v_goto (tgt := 28) dX13_violation_24 (by decide) ?_
      refine v_putf 0 (fs' := _) (ci := 11) (C := RX13) (T := TX13) (N := 71) (ty := .int) rfl iwX13_violation_X13 tyX13 tyX13_ok nmX13 (Nat.le_of_ble_eq_true rfl) (by decide +kernel) rfl rfl dX13_violation_28 rfl rfl (by repeat (first | (with_reducible refine sv_us.trans ?_; exact rfl) | with_reducible assumption | with_reducible refine (sv_un (by omega)).trans ?_)) (by first | omega | (simp only [List.length_set]; omega)) rfl ?_
      refine v_aload_n dX13_violation_31 rfl 0 rfl ?_
      refine v_getf 0 (ci := 11) (C := RX13) (T := TX13) (N := 71) rfl iwX13_violation_X13 (Nat.le_of_ble_eq_true rfl) (by decide +kernel) dX13_violation_32 (by repeat (first | (with_reducible refine sv_us.trans ?_; exact rfl) | with_reducible assumption | with_reducible refine (sv_un (by omega)).trans ?_)) (by repeat (first | with_reducible assumption | (with_reducible refine (sv_ls (by first | omega | (simp only [List.length_set]; omega))).trans ?_; exact rfl) | with_reducible refine (List.getElem?_set_ne (by decide)).trans ?_)) ?_
      refine v_if_le (tgt := 42) dX13_violation_35 (by decide) (fun c_35 => ?_) (fun c_35 => ?_)
      · exact absurd c_35 (by decide)
      · refine v_lconst (v := 0) dX13_violation_38 (by decide) ?_
        refine v_goto (tgt := 57) dX13_violation_39 (by decide) ?_
        exact v_lret rfl dX13_violation_57 (Nat.le_of_ble_eq_true rfl) (Nat.le_of_ble_eq_true rfl) ⟨rfl, rfl, rfl⟩
    · exact absurd ⟨by simp only [Int32.lt_iff_toInt_lt, Int32.le_iff_toInt_le, sv_i0, sv_i1, sv_i2, sv_i3, sv_i4, sv_i5, sv_i6, sv_i7, sv_i8, sv_i9, sv_i10, sv_i16, sv_i17, sv_i20, sv_i32, sv_i40, sv_i64, sv_i100, sv_i126, sv_i255, sv_i600, sv_i1500, sv_i65536, sv_im1] at *; omega, by simp only [Int32.lt_iff_toInt_lt, Int32.le_iff_toInt_le, sv_i0, sv_i1, sv_i2, sv_i3, sv_i4, sv_i5, sv_i6, sv_i7, sv_i8, sv_i9, sv_i10, sv_i16, sv_i17, sv_i20, sv_i32, sv_i40, sv_i64, sv_i100, sv_i126, sv_i255, sv_i600, sv_i1500, sv_i65536, sv_im1] at *; omega⟩ hg

set_option maxHeartbeats 4000000 in
set_option maxRecDepth 100000 in
theorem m_cellOf_o (G : sv_G) (h : sv_h) (z m : Nat) (fs : List Value) (hlen : fs.length = 71) (hm : h m = some (.inr (11, fs))) (c : Int32) (x : Int32) (f_latest : fs[30]? = some (.int x)) (hg : ¬ (0 ≤ c ∧ c < x)) : CT G mX13_cellOf [.ref m, .int c] h z (fun v h1 z1 => v = some (.int 0) ∧ h1 = va_up h m (some (.inr (11, fs.set 0 (.int 1)))) ∧ z1 = z) := by
  refine CT.of (by decide +kernel) rfl rfl (Nat.le_of_ble_eq_true rfl) ?_
  refine v_aload_n dX13_cellOf_0 rfl 0 rfl ?_
  refine v_iload_n dX13_cellOf_1 rfl 1 rfl ?_
  refine v_if_lt (tgt := 13) dX13_cellOf_2 (by decide) (fun c_2 => ?_) (fun c_2 => ?_)
  · refine v_iconst (v := 1) dX13_cellOf_13 (by decide) ?_
    refine v_goto (tgt := 18) dX13_cellOf_14 (by decide) ?_
    refine v_putf 0 (fs' := _) (ci := 11) (C := RX13) (T := TX13) (N := 71) (ty := .int) rfl iwX13_cellOf_X13 tyX13 tyX13_ok nmX13 (Nat.le_of_ble_eq_true rfl) (by decide +kernel) rfl rfl dX13_cellOf_18 rfl rfl (by repeat (first | (with_reducible refine sv_us.trans ?_; exact rfl) | with_reducible assumption | with_reducible refine (sv_un (by omega)).trans ?_)) (by first | omega | (simp only [List.length_set]; omega)) rfl ?_
    refine v_aload_n dX13_cellOf_21 rfl 0 rfl ?_
    refine v_getf 0 (ci := 11) (C := RX13) (T := TX13) (N := 71) rfl iwX13_cellOf_X13 (Nat.le_of_ble_eq_true rfl) (by decide +kernel) dX13_cellOf_22 (by repeat (first | (with_reducible refine sv_us.trans ?_; exact rfl) | with_reducible assumption | with_reducible refine (sv_un (by omega)).trans ?_)) (by repeat (first | with_reducible assumption | (with_reducible refine (sv_ls (by first | omega | (simp only [List.length_set]; omega))).trans ?_; exact rfl) | with_reducible refine (List.getElem?_set_ne (by decide)).trans ?_)) ?_
    refine v_if_le (tgt := 32) dX13_cellOf_25 (by decide) (fun c_25 => ?_) (fun c_25 => ?_)
    · exact absurd c_25 (by decide)
    · refine v_iconst (v := 0) dX13_cellOf_28 (by decide) ?_
      refine v_goto (tgt := 49) dX13_cellOf_29 (by decide) ?_
      exact v_iret rfl dX13_cellOf_49 (Nat.le_of_ble_eq_true rfl) (Nat.le_of_ble_eq_true rfl) rfl ⟨rfl, rfl, rfl⟩
  · refine v_iload_n dX13_cellOf_5 rfl 1 rfl ?_
    refine v_aload_n dX13_cellOf_6 rfl 0 rfl ?_
    refine v_getf 30 (ci := 11) (C := RX13) (T := TX13) (N := 71) rfl iwX13_cellOf_X13 (Nat.le_of_ble_eq_true rfl) (by decide +kernel) dX13_cellOf_7 (by repeat (first | (with_reducible refine sv_us.trans ?_; exact rfl) | with_reducible assumption | with_reducible refine (sv_un (by omega)).trans ?_)) (by repeat (first | with_reducible assumption | (with_reducible refine (sv_ls (by first | omega | (simp only [List.length_set]; omega))).trans ?_; exact rfl) | with_reducible refine (List.getElem?_set_ne (by decide)).trans ?_)) ?_
    refine v_icmp_lt (tgt := 17) dX13_cellOf_10 (by decide) (fun c_10 => ?_) (fun c_10 => ?_)
    · exact absurd ⟨by simp only [Int32.lt_iff_toInt_lt, Int32.le_iff_toInt_le, sv_i0, sv_i1, sv_i2, sv_i3, sv_i4, sv_i5, sv_i6, sv_i7, sv_i8, sv_i9, sv_i10, sv_i16, sv_i17, sv_i20, sv_i32, sv_i40, sv_i64, sv_i100, sv_i126, sv_i255, sv_i600, sv_i1500, sv_i65536, sv_im1] at *; omega, by simp only [Int32.lt_iff_toInt_lt, Int32.le_iff_toInt_le, sv_i0, sv_i1, sv_i2, sv_i3, sv_i4, sv_i5, sv_i6, sv_i7, sv_i8, sv_i9, sv_i10, sv_i16, sv_i17, sv_i20, sv_i32, sv_i40, sv_i64, sv_i100, sv_i126, sv_i255, sv_i600, sv_i1500, sv_i65536, sv_im1] at *; omega⟩ hg
    · refine v_iconst (v := 1) dX13_cellOf_13 (by decide) ?_
      refine v_goto (tgt := 18) dX13_cellOf_14 (by decide) ?_
      refine v_putf 0 (fs' := _) (ci := 11) (C := RX13) (T := TX13) (N := 71) (ty := .int) rfl iwX13_cellOf_X13 tyX13 tyX13_ok nmX13 (Nat.le_of_ble_eq_true rfl) (by decide +kernel) rfl rfl dX13_cellOf_18 rfl rfl (by repeat (first | (with_reducible refine sv_us.trans ?_; exact rfl) | with_reducible assumption | with_reducible refine (sv_un (by omega)).trans ?_)) (by first | omega | (simp only [List.length_set]; omega)) rfl ?_
      refine v_aload_n dX13_cellOf_21 rfl 0 rfl ?_
      refine v_getf 0 (ci := 11) (C := RX13) (T := TX13) (N := 71) rfl iwX13_cellOf_X13 (Nat.le_of_ble_eq_true rfl) (by decide +kernel) dX13_cellOf_22 (by repeat (first | (with_reducible refine sv_us.trans ?_; exact rfl) | with_reducible assumption | with_reducible refine (sv_un (by omega)).trans ?_)) (by repeat (first | with_reducible assumption | (with_reducible refine (sv_ls (by first | omega | (simp only [List.length_set]; omega))).trans ?_; exact rfl) | with_reducible refine (List.getElem?_set_ne (by decide)).trans ?_)) ?_
      refine v_if_le (tgt := 32) dX13_cellOf_25 (by decide) (fun c_25 => ?_) (fun c_25 => ?_)
      · exact absurd c_25 (by decide)
      · refine v_iconst (v := 0) dX13_cellOf_28 (by decide) ?_
        refine v_goto (tgt := 49) dX13_cellOf_29 (by decide) ?_
        exact v_iret rfl dX13_cellOf_49 (Nat.le_of_ble_eq_true rfl) (Nat.le_of_ble_eq_true rfl) rfl ⟨rfl, rfl, rfl⟩

set_option maxHeartbeats 4000000 in
set_option maxRecDepth 100000 in
theorem m_waive_o (G : sv_G) (h : sv_h) (z m : Nat) (fs : List Value) (hlen : fs.length = 71) (hm : h m = some (.inr (11, fs))) (c : Int32) (x : Int32) (f_latest : fs[30]? = some (.int x)) (hg : ¬ (0 ≤ c ∧ c < x)) : CT G mX13_waive [.ref m, .int c] h z (fun v h1 z1 => v = some (.int 0) ∧ h1 = va_up h m (some (.inr (11, fs.set 0 (.int 1)))) ∧ z1 = z) := by
  refine CT.of (by decide +kernel) rfl rfl (Nat.le_of_ble_eq_true rfl) ?_
  refine v_aload_n dX13_waive_0 rfl 0 rfl ?_
  refine v_iload_n dX13_waive_1 rfl 1 rfl ?_
  refine v_if_lt (tgt := 13) dX13_waive_2 (by decide) (fun c_2 => ?_) (fun c_2 => ?_)
  · refine v_iconst (v := 1) dX13_waive_13 (by decide) ?_
    refine v_goto (tgt := 18) dX13_waive_14 (by decide) ?_
    refine v_putf 0 (fs' := _) (ci := 11) (C := RX13) (T := TX13) (N := 71) (ty := .int) rfl iwX13_waive_X13 tyX13 tyX13_ok nmX13 (Nat.le_of_ble_eq_true rfl) (by decide +kernel) rfl rfl dX13_waive_18 rfl rfl (by repeat (first | (with_reducible refine sv_us.trans ?_; exact rfl) | with_reducible assumption | with_reducible refine (sv_un (by omega)).trans ?_)) (by first | omega | (simp only [List.length_set]; omega)) rfl ?_
    refine v_aload_n dX13_waive_21 rfl 0 rfl ?_
    refine v_getf 0 (ci := 11) (C := RX13) (T := TX13) (N := 71) rfl iwX13_waive_X13 (Nat.le_of_ble_eq_true rfl) (by decide +kernel) dX13_waive_22 (by repeat (first | (with_reducible refine sv_us.trans ?_; exact rfl) | with_reducible assumption | with_reducible refine (sv_un (by omega)).trans ?_)) (by repeat (first | with_reducible assumption | (with_reducible refine (sv_ls (by first | omega | (simp only [List.length_set]; omega))).trans ?_; exact rfl) | with_reducible refine (List.getElem?_set_ne (by decide)).trans ?_)) ?_
    refine v_if_le (tgt := 30) dX13_waive_25 (by decide) (fun c_25 => ?_) (fun c_25 => ?_)
    · exact absurd c_25 (by decide)
    · refine v_iconst (v := 0) dX13_waive_28 (by decide) ?_
      exact v_iret rfl dX13_waive_29 (Nat.le_of_ble_eq_true rfl) (Nat.le_of_ble_eq_true rfl) rfl ⟨rfl, rfl, rfl⟩
  · refine v_iload_n dX13_waive_5 rfl 1 rfl ?_
    refine v_aload_n dX13_waive_6 rfl 0 rfl ?_
    refine v_getf 30 (ci := 11) (C := RX13) (T := TX13) (N := 71) rfl iwX13_waive_X13 (Nat.le_of_ble_eq_true rfl) (by decide +kernel) dX13_waive_7 (by repeat (first | (with_reducible refine sv_us.trans ?_; exact rfl) | with_reducible assumption | with_reducible refine (sv_un (by omega)).trans ?_)) (by repeat (first | with_reducible assumption | (with_reducible refine (sv_ls (by first | omega | (simp only [List.length_set]; omega))).trans ?_; exact rfl) | with_reducible refine (List.getElem?_set_ne (by decide)).trans ?_)) ?_
    refine v_icmp_lt (tgt := 17) dX13_waive_10 (by decide) (fun c_10 => ?_) (fun c_10 => ?_)
    · exact absurd ⟨by simp only [Int32.lt_iff_toInt_lt, Int32.le_iff_toInt_le, sv_i0, sv_i1, sv_i2, sv_i3, sv_i4, sv_i5, sv_i6, sv_i7, sv_i8, sv_i9, sv_i10, sv_i16, sv_i17, sv_i20, sv_i32, sv_i40, sv_i64, sv_i100, sv_i126, sv_i255, sv_i600, sv_i1500, sv_i65536, sv_im1] at *; omega, by simp only [Int32.lt_iff_toInt_lt, Int32.le_iff_toInt_le, sv_i0, sv_i1, sv_i2, sv_i3, sv_i4, sv_i5, sv_i6, sv_i7, sv_i8, sv_i9, sv_i10, sv_i16, sv_i17, sv_i20, sv_i32, sv_i40, sv_i64, sv_i100, sv_i126, sv_i255, sv_i600, sv_i1500, sv_i65536, sv_im1] at *; omega⟩ hg
    · refine v_iconst (v := 1) dX13_waive_13 (by decide) ?_
      refine v_goto (tgt := 18) dX13_waive_14 (by decide) ?_
      refine v_putf 0 (fs' := _) (ci := 11) (C := RX13) (T := TX13) (N := 71) (ty := .int) rfl iwX13_waive_X13 tyX13 tyX13_ok nmX13 (Nat.le_of_ble_eq_true rfl) (by decide +kernel) rfl rfl dX13_waive_18 rfl rfl (by repeat (first | (with_reducible refine sv_us.trans ?_; exact rfl) | with_reducible assumption | with_reducible refine (sv_un (by omega)).trans ?_)) (by first | omega | (simp only [List.length_set]; omega)) rfl ?_
      refine v_aload_n dX13_waive_21 rfl 0 rfl ?_
      refine v_getf 0 (ci := 11) (C := RX13) (T := TX13) (N := 71) rfl iwX13_waive_X13 (Nat.le_of_ble_eq_true rfl) (by decide +kernel) dX13_waive_22 (by repeat (first | (with_reducible refine sv_us.trans ?_; exact rfl) | with_reducible assumption | with_reducible refine (sv_un (by omega)).trans ?_)) (by repeat (first | with_reducible assumption | (with_reducible refine (sv_ls (by first | omega | (simp only [List.length_set]; omega))).trans ?_; exact rfl) | with_reducible refine (List.getElem?_set_ne (by decide)).trans ?_)) ?_
      refine v_if_le (tgt := 30) dX13_waive_25 (by decide) (fun c_25 => ?_) (fun c_25 => ?_)
      · exact absurd c_25 (by decide)
      · refine v_iconst (v := 0) dX13_waive_28 (by decide) ?_
        exact v_iret rfl dX13_waive_29 (Nat.le_of_ble_eq_true rfl) (Nat.le_of_ble_eq_true rfl) rfl ⟨rfl, rfl, rfl⟩

