set_option maxHeartbeats 4000000 in
set_option maxRecDepth 100000 in
theorem m_cell (G : sv_G) (h : sv_h) (z m : Nat) (fs : List Value) (hlen : fs.length = 71) (hm : h m = some (.inr (11, fs))) (x : Int32) (f_cells : fs[2]? = some (.int x)) (hx : ¬ x = 16) : CT G mX13_cell [.ref m] h z (fun v h1 z1 => v = some (.int (x + 1 - 1)) ∧ h1 = va_up h m (some (.inr (11, (fs.set 0 (.int 0)).set 2 (.int (x + 1))))) ∧ z1 = z) := by
  refine CT.of (by decide +kernel) rfl rfl (Nat.le_of_ble_eq_true rfl) ?_
  refine v_aload_n dX13_cell_0 rfl 0 rfl ?_
  refine v_aload_n dX13_cell_1 rfl 0 rfl ?_
  refine v_getf 2 (ci := 11) (C := RX13) (T := TX13) (N := 71) rfl iwX13_cell_X13 (Nat.le_of_ble_eq_true rfl) (by decide +kernel) dX13_cell_2 (by repeat (first | (with_reducible refine sv_us.trans ?_; exact rfl) | with_reducible assumption | with_reducible refine (sv_un (by omega)).trans ?_)) (by repeat (first | with_reducible assumption | (with_reducible refine (sv_ls (by first | omega | (simp only [List.length_set]; omega))).trans ?_; exact rfl) | with_reducible refine (List.getElem?_set_ne (by decide)).trans ?_)) ?_
  refine v_bipush (v := 16) dX13_cell_5 (by decide) ?_
  refine v_icmp_ne (tgt := 14) dX13_cell_7 (by decide) (fun c_7 => ?_) (fun c_7 => ?_)
  · refine v_iconst (v := 0) dX13_cell_14 (by decide) ?_
    refine v_putf 0 (fs' := _) (ci := 11) (C := RX13) (T := TX13) (N := 71) (ty := .int) rfl iwX13_cell_X13 tyX13 tyX13_ok nmX13 (Nat.le_of_ble_eq_true rfl) (by decide +kernel) rfl rfl dX13_cell_15 rfl rfl (by repeat (first | (with_reducible refine sv_us.trans ?_; exact rfl) | with_reducible assumption | with_reducible refine (sv_un (by omega)).trans ?_)) (by first | omega | (simp only [List.length_set]; omega)) rfl ?_
    refine v_aload_n dX13_cell_18 rfl 0 rfl ?_
    refine v_getf 0 (ci := 11) (C := RX13) (T := TX13) (N := 71) rfl iwX13_cell_X13 (Nat.le_of_ble_eq_true rfl) (by decide +kernel) dX13_cell_19 (by repeat (first | (with_reducible refine sv_us.trans ?_; exact rfl) | with_reducible assumption | with_reducible refine (sv_un (by omega)).trans ?_)) (by repeat (first | with_reducible assumption | (with_reducible refine (sv_ls (by first | omega | (simp only [List.length_set]; omega))).trans ?_; exact rfl) | with_reducible refine (List.getElem?_set_ne (by decide)).trans ?_)) ?_
    refine v_if_le (tgt := 27) dX13_cell_22 (by decide) (fun c_22 => ?_) (fun c_22 => ?_)
    · refine v_aload_n dX13_cell_27 rfl 0 rfl ?_
      refine v_dup dX13_cell_28 rfl ?_
      refine v_getf 2 (ci := 11) (C := RX13) (T := TX13) (N := 71) rfl iwX13_cell_X13 (Nat.le_of_ble_eq_true rfl) (by decide +kernel) dX13_cell_29 (by repeat (first | (with_reducible refine sv_us.trans ?_; exact rfl) | with_reducible assumption | with_reducible refine (sv_un (by omega)).trans ?_)) (by repeat (first | with_reducible assumption | (with_reducible refine (sv_ls (by first | omega | (simp only [List.length_set]; omega))).trans ?_; exact rfl) | with_reducible refine (List.getElem?_set_ne (by decide)).trans ?_)) ?_
      refine v_iconst (v := 1) dX13_cell_32 (by decide) ?_
      refine v_iadd dX13_cell_33 ?_
      refine v_putf 2 (fs' := _) (ci := 11) (C := RX13) (T := TX13) (N := 71) (ty := .int) rfl iwX13_cell_X13 tyX13 tyX13_ok nmX13 (Nat.le_of_ble_eq_true rfl) (by decide +kernel) rfl rfl dX13_cell_34 rfl rfl (by repeat (first | (with_reducible refine sv_us.trans ?_; exact rfl) | with_reducible assumption | with_reducible refine (sv_un (by omega)).trans ?_)) (by first | omega | (simp only [List.length_set]; omega)) rfl ?_
      refine v_aload_n dX13_cell_37 rfl 0 rfl ?_
      refine v_getf 2 (ci := 11) (C := RX13) (T := TX13) (N := 71) rfl iwX13_cell_X13 (Nat.le_of_ble_eq_true rfl) (by decide +kernel) dX13_cell_38 (by repeat (first | (with_reducible refine sv_us.trans ?_; exact rfl) | with_reducible assumption | with_reducible refine (sv_un (by omega)).trans ?_)) (by repeat (first | with_reducible assumption | (with_reducible refine (sv_ls (by first | omega | (simp only [List.length_set]; omega))).trans ?_; exact rfl) | with_reducible refine (List.getElem?_set_ne (by decide)).trans ?_)) ?_
      refine v_iconst (v := 1) dX13_cell_41 (by decide) ?_
      refine v_isub dX13_cell_42 ?_
      exact v_iret rfl dX13_cell_43 (Nat.le_of_ble_eq_true rfl) (Nat.le_of_ble_eq_true rfl) rfl ⟨rfl, by rw [sv_uu], rfl⟩
    · exact absurd (by decide) c_22
  · exact absurd c_7 hx

set_option maxHeartbeats 4000000 in
set_option maxRecDepth 100000 in
theorem m_cell_o (G : sv_G) (h : sv_h) (z m : Nat) (fs : List Value) (hlen : fs.length = 71) (hm : h m = some (.inr (11, fs))) (x : Int32) (f_cells : fs[2]? = some (.int x)) (hx : x = 16) : CT G mX13_cell [.ref m] h z (fun v h1 z1 => v = some (.int 0) ∧ h1 = va_up h m (some (.inr (11, fs.set 0 (.int 1)))) ∧ z1 = z) := by
  refine CT.of (by decide +kernel) rfl rfl (Nat.le_of_ble_eq_true rfl) ?_
  refine v_aload_n dX13_cell_0 rfl 0 rfl ?_
  refine v_aload_n dX13_cell_1 rfl 0 rfl ?_
  refine v_getf 2 (ci := 11) (C := RX13) (T := TX13) (N := 71) rfl iwX13_cell_X13 (Nat.le_of_ble_eq_true rfl) (by decide +kernel) dX13_cell_2 (by repeat (first | (with_reducible refine sv_us.trans ?_; exact rfl) | with_reducible assumption | with_reducible refine (sv_un (by omega)).trans ?_)) (by repeat (first | with_reducible assumption | (with_reducible refine (sv_ls (by first | omega | (simp only [List.length_set]; omega))).trans ?_; exact rfl) | with_reducible refine (List.getElem?_set_ne (by decide)).trans ?_)) ?_
  refine v_bipush (v := 16) dX13_cell_5 (by decide) ?_
  refine v_icmp_ne (tgt := 14) dX13_cell_7 (by decide) (fun c_7 => ?_) (fun c_7 => ?_)
  · exact absurd hx c_7
  · refine v_iconst (v := 1) dX13_cell_10 (by decide) ?_
    refine v_goto (tgt := 15) dX13_cell_11 (by decide) ?_
    refine v_putf 0 (fs' := _) (ci := 11) (C := RX13) (T := TX13) (N := 71) (ty := .int) rfl iwX13_cell_X13 tyX13 tyX13_ok nmX13 (Nat.le_of_ble_eq_true rfl) (by decide +kernel) rfl rfl dX13_cell_15 rfl rfl (by repeat (first | (with_reducible refine sv_us.trans ?_; exact rfl) | with_reducible assumption | with_reducible refine (sv_un (by omega)).trans ?_)) (by first | omega | (simp only [List.length_set]; omega)) rfl ?_
    refine v_aload_n dX13_cell_18 rfl 0 rfl ?_
    refine v_getf 0 (ci := 11) (C := RX13) (T := TX13) (N := 71) rfl iwX13_cell_X13 (Nat.le_of_ble_eq_true rfl) (by decide +kernel) dX13_cell_19 (by repeat (first | (with_reducible refine sv_us.trans ?_; exact rfl) | with_reducible assumption | with_reducible refine (sv_un (by omega)).trans ?_)) (by repeat (first | with_reducible assumption | (with_reducible refine (sv_ls (by first | omega | (simp only [List.length_set]; omega))).trans ?_; exact rfl) | with_reducible refine (List.getElem?_set_ne (by decide)).trans ?_)) ?_
    refine v_if_le (tgt := 27) dX13_cell_22 (by decide) (fun c_22 => ?_) (fun c_22 => ?_)
    · exact absurd c_22 (by decide)
    · refine v_iconst (v := 0) dX13_cell_25 (by decide) ?_
      exact v_iret rfl dX13_cell_26 (Nat.le_of_ble_eq_true rfl) (Nat.le_of_ble_eq_true rfl) rfl ⟨rfl, rfl, rfl⟩

