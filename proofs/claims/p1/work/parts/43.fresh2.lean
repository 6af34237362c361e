set_option maxHeartbeats 4000000 in
set_option maxRecDepth 100000 in
theorem m_cell (G : sv_G) (h : sv_h) (z m : Nat) (fs : List Value) (hlen : fs.length = 71) (hm : h m = some (.inr (11, fs))) (x : Int32) (f_cells : fs[2]? = some (.int x)) (hx : ¬ x = 16) : CT G mX13_cell [.ref m] h z (fun v h1 z1 => v = some (.int (x + 1 - 1)) ∧ h1 = va_up h m (some (.inr (11, (fs.set 0 (.int 0)).set 2 (.int (x + 1))))) ∧ z1 = z) := by
  refine CT.of (by decide +kernel) rfl rfl (Nat.le_of_ble_eq_true rfl) ?_
  refine v_aload_n dX13_cell_0 rfl 0 rfl ?_
  refine v_aload_n dX13_cell_1 rfl 0 rfl ?_
  refine v_getf 2 (ci := 11) (C := RX13) (T := TX13) (N := 71) rfl iwX13_cell_X13 (Nat.le_of_ble_eq_true rfl) (by decide +kernel) dX13_cell_2 (by repeat (first | (with_reducible refine sv_us.trans ?_; exact rfl) | with_reducible assumption | with_reducible refine (sv_un (by omega)).trans ?_)) (by repeat (first | with_reducible assumption | (with_reducible refine (sv_ls (by first | omega | (simp only [List.length_set]; omega))).trans ?_; exact rfl) | with_reducible refine (List.getElem?_set_ne (by decide)).trans ?_)) ?_
  refine v_bipush (v := 16) dX13_cell_5 (by decide) ?_
  refine v_icmp_ne (tgt := 14) dX13_cell_7 (by decide) (fun c_7 => ?_) (fun c_7 => ?_)
  · refine v_iconst (v := 0) dX13_cell_14 (by decide) ?_
    refine v_putf 0 (fs' := _) (ci := 11) (C := RX13) (T := TX13) (N := 71) (ty := .int) rfl iwX13_cell_X13 tyX13 tyX13_ok nmX13 (Nat.le_of_ble_eq_true rfl) (by decide +kernel) rfl rfl dX13_cell_15 rfl rfl (by repeat (first | (with_reducible refine sv_us.trans ?_; exact rfl) | with_reducible assumption | with_reducible refine (sv_un (by omega)).trans ?_)) (by first | omega | (simp only [List.length_set]; omega)) rfl ?_
    refine v_aload_n dX13_cell_18 rfl 0 rfl ?_
    refine v_getf 0 (ci := 11) (C := RX13) (T := TX13) (N := 71) rfl iwX13_cell_X13 (Nat.le_of_ble_eq_true rfl) (by decide +kernel) dX13_cell_19 (by repeat (first | (with_reducible refine sv_us.trans ?_; exact rfl) | with_reducible assumption | with_reducible refine (sv_un (by omega)).trans ?_)) (by repeat (first | with_reducible assumption | (with_reducible refine (sv_ls (by first | omega | (simp only [List.length_set]; omega))).trans ?_; exact rfl) | with_reducible refine (List.getElem?_set_ne (by decide)).trans ?_)) ?_
    refine v_if_le (tgt := 27) dX13_cell_22 (by decide) (fun c_22 => ?_) (fun c_22 => ?_)
    · refine v_aload_n dX13_cell_27 rfl 0 rfl ?_
      refine v_dup dX13_cell_28 rfl ?_
      refine v_getf 2 (ci := 11) (C := RX13) (T := TX13) (N := 71) rfl iwX13_cell_X13 (Nat.le_of_ble_eq_true rfl) (by decide +kernel) dX13_cell_29 (by repeat (first | (with_reducible refine sv_us.trans ?_; exact rfl) | with_reducible assumption | with_reducible refine (sv_un (by omega)).trans ?_)) (by repeat (first | with_reducible assumption | (with_reducible refine (sv_ls (by first | omega | (simp only [List.length_set]; omega))).trans ?_; exact rfl) | with_reducible refine (List.getElem?_set_ne (by decide)).trans ?_)) ?_
      refine v_iconst (v := 1) dX13_cell_32 (by decide) ?_
      refine v_iadd dX13_cell_33 ?_
      refine v_putf 2 (fs' := _) (ci := 11) (C := RX13) (T := TX13) (N := 71) (ty := .int) rfl iwX13_cell_X13 tyX13 tyX13_ok nmX13 (Nat.le_of_ble_eq_true rfl) (by decide +kernel) rfl rfl dX13_cell_34 rfl rfl (by repeat (first | (with_reducible refine sv_us.trans ?_; exact rfl) | with_reducible assumption | with_reducible refine (sv_un (by omega)).trans ?_)) (by first | omega | (simp only [List.length_set]; omega)) rfl ?_
      refine v_aload_n dX13_cell_37 rfl 0 rfl ?_
      refine v_getf 2 (ci := 11) (C := RX13) (T := TX13) (N := 71) rfl iwX13_cell_X13 (Nat.le_of_ble_eq_true rfl) (by decide +kernel) dX13_cell_38 (by repeat (first | (with_reducible refine sv_us.trans ?_; exact rfl) | with_reducible assumption | with_reducible refine (sv_un (by omega)).trans ?_)) (by repeat (first | with_reducible assumption | (with_reducible refine (sv_ls (by first | omega | (simp only [List.length_set]; omega))).trans ?_; exact rfl) | with_reducible refine (List.getElem?_set_ne (by decide)).trans ?_)) ?_
      refine v_iconst (v := 1) dX13_cell_41 (by decide) ?_
      refine v_isub dX13_cell_42 ?_
      exact v_iret rfl dX13_cell_43 (Nat.le_of_ble_eq_true rfl) (Nat.le_of_ble_eq_true rfl) rfl ⟨rfl, by rw [sv_uu], rfl⟩
    · exact absurd (by decide) c_22
  · exact absurd c_7 hx

set_option maxHeartbeats 4000000 in
set_option maxRecDepth 100000 in
theorem m_cell_o (G : sv_G) (h : sv_h) (z m : Nat) (fs : List Value) (hlen : fs.length = 71) (hm : h m = some (.inr (11, fs))) (x : Int32) (f_cells : fs[2]? = some (.int x)) (hx : x = 16) : CT G mX13_cell [.ref m] h z (fun v h1 z1 => v = some (.int 0) ∧ h1 = va_up h m (some (.inr (11, fs.set 0 (.int 1)))) ∧ z1 = z) := by
  refine CT.of (by decide +kernel) rfl rfl (Nat.le_of_ble_eq_true rfl) ?_
  refine v_aload_n dX13_cell_0 rfl 0 rfl ?_
  refine v_aload_n dX13_cell_1 rfl 0 rfl ?_
  refine v_getf 2 (ci := 11) (C := RX13) (T := TX13) (N := 71) rfl iwX13_cell_X13 (Nat.le_of_ble_eq_true rfl) (by decide +kernel) dX13_cell_2 (by repeat (first | (with_reducible refine sv_us.trans ?_; exact rfl) | with_reducible assumption | with_reducible refine (sv_un (by omega)).trans ?_)) (by repeat (first | with_reducible assumption | (with_reducible refine (sv_ls (by first | omega | (simp only [List.length_set]; omega))).trans ?_; exact rfl) | with_reducible refine (List.getElem?_set_ne (by decide)).trans ?_)) ?_
  refine v_bipush (v := 16) dX13_cell_5 (by decide) ?_
  refine v_icmp_ne (tgt := 14) dX13_cell_7 (by decide) (fun c_7 => ?_) (fun c_7 => ?_)
  · exact absurd hx c_7
  · refine v_iconst (v := 1) dX13_cell_10 (by decide) ?_
    refine v_goto (tgt := 15) dX13_cell_11 (by decide) ?_
    refine v_putf 0 (fs' := _) (ci := 11) (C := RX13) (T := TX13) (N := 71) (ty := .int) rfl iwX13_cell_X13 tyX13 tyX13_ok nmX13 (Nat.le_of_ble_eq_true rfl) (by decide +kernel) rfl rfl dX13_cell_15 rfl rfl (by repeat (first | (with_reducible refine sv_us.trans ?_; exact rfl) | with_reducible assumption | with_reducible refine (sv_un (by omega)).trans ?_)) (by first | omega | (simp only [List.length_set]; omega)) rfl ?_
    refine v_aload_n dX13_cell_18 rfl 0 rfl ?_
    refine v_getf 0 (ci := 11) (C := RX13) (T := TX13) (N := 71) rfl iwX13_cell_X13 (Nat.le_of_ble_eq_true rfl) (by decide +kernel) dX13_cell_19 (by repeat (first | (with_reducible refine sv_us.trans ?_; exact rfl) | with_reducible assumption | with_reducible refine (sv_un (by omega)).trans ?_)) (by repeat (first | with_reducible assumption | (with_reducible refine (sv_ls (by first | omega | (simp only [List.length_set]; omega))).trans ?_; exact rfl) | with_reducible refine (List.getElem?_set_ne (by decide)).trans ?_)) ?_
    refine v_if_le (tgt := 27) dX13_cell_22 (by decide) (fun c_22 => ?_) (fun c_22 => ?_)
    · exact absurd c_22 (by decide)
    · refine v_iconst (v := 0) dX13_cell_25 (by decide) ?_
      exact v_iret rfl dX13_cell_26 (Nat.le_of_ble_eq_true rfl) (Nat.le_of_ble_eq_true rfl) rfl ⟨rfl, rfl, rfl⟩

theorem f_unit (G : sv_G) (b : Nat) (k u : Int32) : OpD G mX12_unit mX13_unit b (b + 220) [.int u] (sv_Fr G b k) (sv_Wk G b (b + 220) (b + 261)) := by
  intro h z hi
  have hd := hi.1.deck
  have hm := hi.2.1.obj
  obtain ⟨f0, ho⟩ := hi.2.2
  have hT := hi.2.1.tape
  refine ⟨_, c_unit G h z b u _ _ _ _ _ _ _ _ _ _ _ _ _ hd (b + 9) 0 (fun _ => 0) (by omega) hi.1.tape hi.1.tapeA (by omega), fun v h1 z1 hq => ?_⟩
  obtain ⟨rfl, ⟨q1, q2, rfl, rfl⟩ | ⟨q1, rfl, rfl⟩⟩ := hq
  · have hm1 : (va_up (va_up h (b + 9) (some (.inl (G.2.2.1 0, 600, .inl (upd (fun _ => 0) 0 u))))) (b + 8) (some (.inr (7, [.ref (b + 9), .int (nI (0 + 1))])))) (b + 220) = some (.inr (11, sv_fs b k)) := (by repeat (first | (with_reducible refine sv_us.trans ?_; exact rfl) | with_reducible assumption | with_reducible refine (sv_un (by omega)).trans ?_))
    have hT1 : (va_up (va_up h (b + 9) (some (.inl (G.2.2.1 0, 600, .inl (upd (fun _ => 0) 0 u))))) (b + 8) (some (.inr (7, [.ref (b + 9), .int (nI (0 + 1))])))) (b + 232) = some (.inl (G.2.2.1 0, 600, .inl (fun _ => 0))) := (by repeat (first | (with_reducible refine sv_us.trans ?_; exact rfl) | with_reducible assumption | with_reducible refine (sv_un (by omega)).trans ?_))
    refine ⟨1, rfl, ⟨_, hm1⟩, _, m_unit G _ _ _ _ rfl hm1 u (b + 232) 0 (fun _ => 0) (by omega) rfl rfl hT1 (by omega), fun v2 h2 z2 hq2 => ?_⟩
    obtain ⟨rfl, ⟨p1, p2, rfl, rfl⟩ | ⟨p1, rfl, rfl⟩⟩ := hq2
    · exact ⟨rfl, ⟨_, (by repeat (first | (with_reducible refine sv_us.trans ?_; exact rfl) | with_reducible assumption | with_reducible refine (sv_un (by omega)).trans ?_))⟩, ⟨_, sv_us⟩, f0, (by repeat (first | (with_reducible refine sv_us.trans ?_; exact rfl) | with_reducible assumption | with_reducible refine (sv_un (by omega)).trans ?_))⟩
    · exact absurd ⟨q1, q2⟩ p1
  · refine ⟨0, rfl, ⟨_, hm⟩, _, m_unit G _ _ _ _ rfl hm u (b + 232) 0 (fun _ => 0) (by omega) rfl rfl hT (by omega), fun v2 h2 z2 hq2 => ?_⟩
    obtain ⟨rfl, ⟨p1, p2, rfl, rfl⟩ | ⟨p1, rfl, rfl⟩⟩ := hq2
    · exact absurd ⟨p1, p2⟩ q1
    · exact ⟨rfl, ⟨_, (by repeat (first | (with_reducible refine sv_us.trans ?_; exact rfl) | with_reducible assumption | with_reducible refine (sv_un (by omega)).trans ?_))⟩, ⟨_, sv_us⟩, f0, (by repeat (first | (with_reducible refine sv_us.trans ?_; exact rfl) | with_reducible assumption | with_reducible refine (sv_un (by omega)).trans ?_))⟩
theorem f_units (G : sv_G) (b : Nat) (k x : Int32) : OpD G mX12_units mX13_units b (b + 220) [.int x] (sv_Fr G b k) (sv_Wk G b (b + 220) (b + 261)) := by
  intro h z hi
  have hd := hi.1.deck
  have hm := hi.2.1.obj
  obtain ⟨f0, ho⟩ := hi.2.2
  have hT := hi.2.1.tape
  refine ⟨_, c_units G h z b x _ _ _ _ _ _ _ _ _ _ _ _ _ (b + 9) 0 (fun _ => 0) (by omega) hd hi.1.tape hi.1.tapeA (by omega) (by omega) (by omega), fun v h1 z1 hq => ?_⟩
  obtain ⟨rfl, ⟨q1, q2, rfl, e1, e2, e3⟩ | ⟨q1, rfl, rfl⟩⟩ := hq
  · have hm1 := (e3 (b + 220) (by omega) (by omega)).trans hm
    have hT1 := (e3 (b + 232) (by omega) (by omega)).trans hT
    refine ⟨1, rfl, ⟨_, hm1⟩, _, m_units G _ _ _ _ rfl hm1 x (b + 232) 0 (fun _ => 0) (by omega) rfl rfl hT1 (by omega), fun v2 h2 z2 hq2 => ?_⟩
    obtain ⟨rfl, ⟨p1, p2, rfl, F, g1, g2, g3, g4, g5, g6, g7, g8⟩ | ⟨p1, rfl, rfl⟩⟩ := hq2
    · exact ⟨rfl, ⟨_, (g8 b (by omega) (by omega)).trans ((e3 b (by omega) (by omega)).trans hd)⟩, ⟨_, g1⟩, f0, (g8 _ (by omega) (by omega)).trans ((e3 _ (by omega) (by omega)).trans ho)⟩
    · exact absurd ⟨q1, q2⟩ p1
  · refine ⟨0, rfl, ⟨_, hm⟩, _, m_units G _ _ _ _ rfl hm x (b + 232) 0 (fun _ => 0) (by omega) rfl rfl hT (by omega), fun v2 h2 z2 hq2 => ?_⟩
    obtain ⟨rfl, ⟨p1, p2, rfl, F, g1, g2, g3, g4, g5, g6, g7, g8⟩ | ⟨p1, rfl, rfl⟩⟩ := hq2
    · exact absurd ⟨p1, p2⟩ q1
    · exact ⟨rfl, ⟨_, (by repeat (first | (with_reducible refine sv_us.trans ?_; exact rfl) | with_reducible assumption | with_reducible refine (sv_un (by omega)).trans ?_))⟩, ⟨_, sv_us⟩, f0, (by repeat (first | (with_reducible refine sv_us.trans ?_; exact rfl) | with_reducible assumption | with_reducible refine (sv_un (by omega)).trans ?_))⟩
theorem f_cell (G : sv_G) (hl0 : G.1.stackTraces = false) (b : Nat) (k : Int32) : OpI G mX12_cell mX13_cell b (b + 220) (b + 261) ["java/lang/IllegalStateException"] [] (sv_Fr G b k) (sv_Wk G b (b + 220) (b + 261)) := by
  intro h z hi
  have hd := hi.1.deck
  have hm := hi.2.1.obj
  obtain ⟨f0, ho⟩ := hi.2.2
  refine ⟨_, _, c_cell G hl0 h z b _ _ _ _ _ _ _ _ _ _ _ _ _ _ _ _ _ _ _ _ _ _ _ hd hi.1.lay (by omega), fun v h1 z1 hq => ?_, fun E h1 z1 hq => absurd (by decide) hq.1⟩
  obtain ⟨q1, rfl, rfl, rfl⟩ := hq
  refine ⟨_, rfl, ⟨f0, (by repeat (first | (with_reducible refine sv_us.trans ?_; exact rfl) | with_reducible assumption | with_reducible refine (sv_un (by omega)).trans ?_))⟩, by omega, ⟨_, (by repeat (first | (with_reducible refine sv_us.trans ?_; exact rfl) | with_reducible assumption | with_reducible refine (sv_un (by omega)).trans ?_))⟩, fun h2 g e1 e2 e3 => ?_⟩
  have hm2 : h2 (b + 220) = some (.inr (11, sv_fs b k)) := (e3 _ (by omega)).trans (by repeat (first | (with_reducible refine sv_us.trans ?_; exact rfl) | with_reducible assumption | with_reducible refine (sv_un (by omega)).trans ?_))
  refine ⟨_, m_cell G _ _ _ _ rfl hm2 0 rfl (by decide), fun v2 h3 z3 hq2 => ?_⟩
  obtain ⟨rfl, rfl, rfl⟩ := hq2
  refine ⟨rfl, ⟨_, sv_us, rfl, rfl⟩, (sv_un (by omega)).trans e1, ⟨_, (sv_un (by omega)).trans ((e3 b (by omega)).trans (by repeat (first | (with_reducible refine sv_us.trans ?_; exact rfl) | with_reducible assumption | with_reducible refine (sv_un (by omega)).trans ?_)))⟩, ⟨_, sv_us⟩, g, (sv_un (by omega)).trans e1⟩
