set_option maxHeartbeats 4000000 in
set_option maxRecDepth 100000 in
theorem m_read0 (G : sv_G) (h : sv_h) (z m : Nat) (fs : List Value) (hlen : fs.length = 71) (hm : h m = some (.inr (11, fs))) (ly : Int32) (f_length : fs[17]? = some (.int 0)) (f_layers : fs[1]? = some (.int ly)) : CT G mX13_read [.ref m] h z (fun v h1 z1 => v = some (.int (-1)) ∧ z1 = z ∧ (∃ F, h1 m = some (.inr (11, F))) ∧ ∀ a, a ≠ m → h1 a = h a) := by
  refine CT.of (by decide +kernel) rfl rfl (Nat.le_of_ble_eq_true rfl) ?_
  refine v_aload_n dX13_read_0 rfl 0 rfl ?_
  refine v_iconst (v := 0) dX13_read_1 (by decide) ?_
  refine v_putf 0 (fs' := _) (ci := 11) (C := RX13) (T := TX13) (N := 71) (ty := .int) rfl iwX13_read_X13 tyX13 tyX13_ok nmX13 (Nat.le_of_ble_eq_true rfl) (by decide +kernel) rfl rfl dX13_read_2 rfl rfl (by repeat (first | (with_reducible refine sv_us.trans ?_; exact rfl) | with_reducible assumption | with_reducible refine (sv_un (by omega)).trans ?_)) (by first | omega | (simp only [List.length_set]; omega)) rfl ?_
  refine v_aload_n dX13_read_5 rfl 0 rfl ?_
  refine v_iconst (v := 0) dX13_read_6 (by decide) ?_
  refine v_putf 68 (fs' := _) (ci := 11) (C := RX13) (T := TX13) (N := 71) (ty := .int) rfl iwX13_read_X13 tyX13 tyX13_ok nmX13 (Nat.le_of_ble_eq_true rfl) (by decide +kernel) rfl rfl dX13_read_7 rfl rfl (by repeat (first | (with_reducible refine sv_us.trans ?_; exact rfl) | with_reducible assumption | with_reducible refine (sv_un (by omega)).trans ?_)) (by first | omega | (simp only [List.length_set]; omega)) rfl ?_
  refine v_aload_n dX13_read_10 rfl 0 rfl ?_
  refine v_iconst (v := (-1)) dX13_read_11 (by decide) ?_
  refine v_putf 69 (fs' := _) (ci := 11) (C := RX13) (T := TX13) (N := 71) (ty := .int) rfl iwX13_read_X13 tyX13 tyX13_ok nmX13 (Nat.le_of_ble_eq_true rfl) (by decide +kernel) rfl rfl dX13_read_12 rfl rfl (by repeat (first | (with_reducible refine sv_us.trans ?_; exact rfl) | with_reducible assumption | with_reducible refine (sv_un (by omega)).trans ?_)) (by first | omega | (simp only [List.length_set]; omega)) rfl ?_
  refine v_aload_n dX13_read_15 rfl 0 rfl ?_
  refine v_iconst (v := 1) dX13_read_16 (by decide) ?_
  refine v_putf 70 (fs' := _) (ci := 11) (C := RX13) (T := TX13) (N := 71) (ty := .boolean) rfl iwX13_read_X13 tyX13 tyX13_ok nmX13 (Nat.le_of_ble_eq_true rfl) (by decide +kernel) rfl rfl dX13_read_17 rfl rfl (by repeat (first | (with_reducible refine sv_us.trans ?_; exact rfl) | with_reducible assumption | with_reducible refine (sv_un (by omega)).trans ?_)) (by first | omega | (simp only [List.length_set]; omega)) rfl ?_
  simp only [sv_uu]
  obtain ⟨F, eF⟩ : ∃ F, F = (((fs.set 0 (.int 0)).set 68 (.int 0)).set 69 (.int (-1))).set 70 (.int 1) := ⟨_, rfl⟩
  have lF : F.length = 71 := by rw [eF]; simp only [List.length_set]; assumption
  have F_word : F[69]? = some (.int (-1)) := by rw [eF]; exact (by repeat (first | with_reducible assumption | (with_reducible refine (sv_ls (by first | omega | (simp only [List.length_set]; omega))).trans ?_; exact rfl) | with_reducible refine (List.getElem?_set_ne (by decide)).trans ?_))
  have F_to : F[68]? = some (.int 0) := by rw [eF]; exact (by repeat (first | with_reducible assumption | (with_reducible refine (sv_ls (by first | omega | (simp only [List.length_set]; omega))).trans ?_; exact rfl) | with_reducible refine (List.getElem?_set_ne (by decide)).trans ?_))
  have F_right : F[70]? = some (.int 1) := by rw [eF]; exact (by repeat (first | with_reducible assumption | (with_reducible refine (sv_ls (by first | omega | (simp only [List.length_set]; omega))).trans ?_; exact rfl) | with_reducible refine (List.getElem?_set_ne (by decide)).trans ?_))
  have F_length : F[17]? = some (.int 0) := by rw [eF]; exact (by repeat (first | with_reducible assumption | (with_reducible refine (sv_ls (by first | omega | (simp only [List.length_set]; omega))).trans ?_; exact rfl) | with_reducible refine (List.getElem?_set_ne (by decide)).trans ?_))
  have F_layers : F[1]? = some (.int ly) := by rw [eF]; exact (by repeat (first | with_reducible assumption | (with_reducible refine (sv_ls (by first | omega | (simp only [List.length_set]; omega))).trans ?_; exact rfl) | with_reducible refine (List.getElem?_set_ne (by decide)).trans ?_))
  rw [← eF]
  obtain ⟨h5, eh5⟩ : ∃ h5, h5 = va_up h m (some (.inr (11, F))) := ⟨_, rfl⟩
  have mF : h5 m = some (.inr (11, F)) := by rw [eh5]; exact sv_us
  rw [← eh5]
  refine v_aload_n dX13_read_20 rfl 0 rfl ?_
  refine v_callV (M' := mX13_next) (n := 0) (As := []) (ci := 11) (r := (RX13, TX13, 71)) gX13_read_X13_next rfl (by decide +kernel) ⟨(Nat.le_of_ble_eq_true rfl), (Nat.le_of_ble_eq_true rfl)⟩ rfl rfl dX13_read_21 rfl ⟨(Nat.le_of_ble_eq_true rfl), (Nat.le_of_ble_eq_true rfl)⟩ (Nat.le_of_ble_eq_true rfl) (by repeat (first | (with_reducible refine sv_us.trans ?_; exact rfl) | with_reducible assumption | with_reducible refine (sv_un (by omega)).trans ?_)) rfl (m_next_end G _ _ _ _ lF mF _ F_word F_to F_length) (fun v h1 z1 hq => ?_)
  obtain ⟨rfl, rfl, rfl⟩ := hq
  obtain ⟨K, eK⟩ : ∃ K, K = ((F.set 69 (.int (-1 + 1))).set 67 (.int 0)).set 68 (.int 0) := ⟨_, rfl⟩
  have lK : K.length = 71 := by rw [eK]; simp only [List.length_set]; assumption
  have K_word : K[69]? = some (.int (-1 + 1)) := by rw [eK]; exact (by repeat (first | with_reducible assumption | (with_reducible refine (sv_ls (by first | omega | (simp only [List.length_set]; omega))).trans ?_; exact rfl) | with_reducible refine (List.getElem?_set_ne (by decide)).trans ?_))
  have K_to : K[68]? = some (.int 0) := by rw [eK]; exact (by repeat (first | with_reducible assumption | (with_reducible refine (sv_ls (by first | omega | (simp only [List.length_set]; omega))).trans ?_; exact rfl) | with_reducible refine (List.getElem?_set_ne (by decide)).trans ?_))
  have K_from : K[67]? = some (.int 0) := by rw [eK]; exact (by repeat (first | with_reducible assumption | (with_reducible refine (sv_ls (by first | omega | (simp only [List.length_set]; omega))).trans ?_; exact rfl) | with_reducible refine (List.getElem?_set_ne (by decide)).trans ?_))
  have K_right : K[70]? = some (.int 1) := by rw [eK]; exact (by repeat (first | with_reducible assumption | (with_reducible refine (sv_ls (by first | omega | (simp only [List.length_set]; omega))).trans ?_; exact rfl) | with_reducible refine (List.getElem?_set_ne (by decide)).trans ?_))
  have K_length : K[17]? = some (.int 0) := by rw [eK]; exact (by repeat (first | with_reducible assumption | (with_reducible refine (sv_ls (by first | omega | (simp only [List.length_set]; omega))).trans ?_; exact rfl) | with_reducible refine (List.getElem?_set_ne (by decide)).trans ?_))
  have K_layers : K[1]? = some (.int ly) := by rw [eK]; exact (by repeat (first | with_reducible assumption | (with_reducible refine (sv_ls (by first | omega | (simp only [List.length_set]; omega))).trans ?_; exact rfl) | with_reducible refine (List.getElem?_set_ne (by decide)).trans ?_))
  rw [← eK]
  obtain ⟨h6, eh6⟩ : ∃ h6, h6 = va_up h5 m (some (.inr (11, K))) := ⟨_, rfl⟩
  have mK : h6 m = some (.inr (11, K)) := by rw [eh6]; exact sv_us
  rw [← eh6]
  refine v_iconst (v := 0) dX13_read_24 (by decide) ?_
  refine v_istore_n (L' := [(1, _), (0, _)]) dX13_read_25 rfl (Nat.le_of_ble_eq_true rfl) rfl ?_
  refine v_iconst (v := 1) dX13_read_26 (by decide) ?_
  refine v_istore_n (L' := [(2, _), (1, _), (0, _)]) dX13_read_27 rfl (Nat.le_of_ble_eq_true rfl) rfl ?_
  refine v_aload_n dX13_read_28 rfl 2 rfl ?_
  refine v_getf 70 (ci := 11) (C := RX13) (T := TX13) (N := 71) rfl iwX13_read_X13 (Nat.le_of_ble_eq_true rfl) (by decide +kernel) dX13_read_29 (by repeat (first | (with_reducible refine sv_us.trans ?_; exact rfl) | with_reducible assumption | with_reducible refine (sv_un (by omega)).trans ?_)) (by repeat (first | with_reducible assumption | (with_reducible refine (sv_ls (by first | omega | (simp only [List.length_set]; omega))).trans ?_; exact rfl) | with_reducible refine (List.getElem?_set_ne (by decide)).trans ?_)) ?_
  refine v_if_eq (tgt := 67) dX13_read_32 (by decide) (fun c_32 => ?_) (fun c_32 => ?_)
  · exact absurd c_32 (by decide)
  · refine v_iload_n dX13_read_35 rfl 0 rfl ?_
    refine v_if_eq (tgt := 67) dX13_read_36 (by decide) (fun c_36 => ?_) (fun c_36 => ?_)
    · exact absurd c_36 (by decide)
    · refine v_aload_n dX13_read_39 rfl 2 rfl ?_
      refine v_iload_n dX13_read_40 rfl 1 rfl ?_
      refine v_callV (M' := mX13_readRule) (n := 1) (As := [_]) (ci := 11) (r := (RX13, TX13, 71)) gX13_read_X13_readRule rfl (by decide +kernel) ⟨(Nat.le_of_ble_eq_true rfl), (Nat.le_of_ble_eq_true rfl)⟩ rfl rfl dX13_read_41 rfl ⟨(Nat.le_of_ble_eq_true rfl), (Nat.le_of_ble_eq_true rfl)⟩ (Nat.le_of_ble_eq_true rfl) (by repeat (first | (with_reducible refine sv_us.trans ?_; exact rfl) | with_reducible assumption | with_reducible refine (sv_un (by omega)).trans ?_)) rfl (m_readRule0 G _ _ _ _ lK mK _ K_from K_to _ K_right K_layers) (fun v h1 z1 hq => ?_)
      obtain ⟨rfl, rfl, rfl⟩ := hq
      obtain ⟨N, eN⟩ : ∃ N, N = K.set 70 (.int 0) := ⟨_, rfl⟩
      have lN : N.length = 71 := by rw [eN]; simp only [List.length_set]; assumption
      have N_word : N[69]? = some (.int (-1 + 1)) := by rw [eN]; exact (by repeat (first | with_reducible assumption | (with_reducible refine (sv_ls (by first | omega | (simp only [List.length_set]; omega))).trans ?_; exact rfl) | with_reducible refine (List.getElem?_set_ne (by decide)).trans ?_))
      have N_to : N[68]? = some (.int 0) := by rw [eN]; exact (by repeat (first | with_reducible assumption | (with_reducible refine (sv_ls (by first | omega | (simp only [List.length_set]; omega))).trans ?_; exact rfl) | with_reducible refine (List.getElem?_set_ne (by decide)).trans ?_))
      have N_from : N[67]? = some (.int 0) := by rw [eN]; exact (by repeat (first | with_reducible assumption | (with_reducible refine (sv_ls (by first | omega | (simp only [List.length_set]; omega))).trans ?_; exact rfl) | with_reducible refine (List.getElem?_set_ne (by decide)).trans ?_))
      have N_right : N[70]? = some (.int 0) := by rw [eN]; exact (by repeat (first | with_reducible assumption | (with_reducible refine (sv_ls (by first | omega | (simp only [List.length_set]; omega))).trans ?_; exact rfl) | with_reducible refine (List.getElem?_set_ne (by decide)).trans ?_))
      have N_length : N[17]? = some (.int 0) := by rw [eN]; exact (by repeat (first | with_reducible assumption | (with_reducible refine (sv_ls (by first | omega | (simp only [List.length_set]; omega))).trans ?_; exact rfl) | with_reducible refine (List.getElem?_set_ne (by decide)).trans ?_))
      rw [← eN]
      obtain ⟨h7, eh7⟩ : ∃ h7, h7 = va_up h6 m (some (.inr (11, N))) := ⟨_, rfl⟩
      have mN : h7 m = some (.inr (11, N)) := by rw [eh7]; exact sv_us
      rw [← eh7]
      refine v_iinc (j := 1) (L' := [(1, _), (2, _), (0, _)]) (v := _) dX13_read_44 rfl rfl (Nat.le_of_ble_eq_true rfl) rfl ?_
      refine v_aload_n dX13_read_47 rfl 2 rfl ?_
      refine v_getf 67 (ci := 11) (C := RX13) (T := TX13) (N := 71) rfl iwX13_read_X13 (Nat.le_of_ble_eq_true rfl) (by decide +kernel) dX13_read_48 (by repeat (first | (with_reducible refine sv_us.trans ?_; exact rfl) | with_reducible assumption | with_reducible refine (sv_un (by omega)).trans ?_)) (by repeat (first | with_reducible assumption | (with_reducible refine (sv_ls (by first | omega | (simp only [List.length_set]; omega))).trans ?_; exact rfl) | with_reducible refine (List.getElem?_set_ne (by decide)).trans ?_)) ?_
      refine v_aload_n dX13_read_51 rfl 2 rfl ?_
      refine v_getf 17 (ci := 11) (C := RX13) (T := TX13) (N := 71) rfl iwX13_read_X13 (Nat.le_of_ble_eq_true rfl) (by decide +kernel) dX13_read_52 (by repeat (first | (with_reducible refine sv_us.trans ?_; exact rfl) | with_reducible assumption | with_reducible refine (sv_un (by omega)).trans ?_)) (by repeat (first | with_reducible assumption | (with_reducible refine (sv_ls (by first | omega | (simp only [List.length_set]; omega))).trans ?_; exact rfl) | with_reducible refine (List.getElem?_set_ne (by decide)).trans ?_)) ?_
      refine v_icmp_ge (tgt := 62) dX13_read_55 (by decide) (fun c_55 => ?_) (fun c_55 => ?_)
      · refine v_iconst (v := 0) dX13_read_62 (by decide) ?_
        refine v_istore_n (L' := [(2, _), (1, _), (0, _)]) dX13_read_63 rfl (Nat.le_of_ble_eq_true rfl) rfl ?_
        refine v_goto (tgt := 28) dX13_read_64 (by decide) ?_
        refine v_aload_n dX13_read_28 rfl 2 rfl ?_
        refine v_getf 70 (ci := 11) (C := RX13) (T := TX13) (N := 71) rfl iwX13_read_X13 (Nat.le_of_ble_eq_true rfl) (by decide +kernel) dX13_read_29 (by repeat (first | (with_reducible refine sv_us.trans ?_; exact rfl) | with_reducible assumption | with_reducible refine (sv_un (by omega)).trans ?_)) (by repeat (first | with_reducible assumption | (with_reducible refine (sv_ls (by first | omega | (simp only [List.length_set]; omega))).trans ?_; exact rfl) | with_reducible refine (List.getElem?_set_ne (by decide)).trans ?_)) ?_
        refine v_if_eq (tgt := 67) dX13_read_32 (by decide) (fun c_32 => ?_) (fun c_32 => ?_)
        · refine v_aload_n dX13_read_67 rfl 2 rfl ?_
          refine v_iconst (v := 0) dX13_read_68 (by decide) ?_
          refine v_putf 17 (fs' := _) (ci := 11) (C := RX13) (T := TX13) (N := 71) (ty := .int) rfl iwX13_read_X13 tyX13 tyX13_ok nmX13 (Nat.le_of_ble_eq_true rfl) (by decide +kernel) rfl rfl dX13_read_69 rfl rfl (by repeat (first | (with_reducible refine sv_us.trans ?_; exact rfl) | with_reducible assumption | with_reducible refine (sv_un (by omega)).trans ?_)) (by first | omega | (simp only [List.length_set]; omega)) rfl ?_
          refine v_aload_n dX13_read_72 rfl 2 rfl ?_
          refine v_getf 70 (ci := 11) (C := RX13) (T := TX13) (N := 71) rfl iwX13_read_X13 (Nat.le_of_ble_eq_true rfl) (by decide +kernel) dX13_read_73 (by repeat (first | (with_reducible refine sv_us.trans ?_; exact rfl) | with_reducible assumption | with_reducible refine (sv_un (by omega)).trans ?_)) (by repeat (first | with_reducible assumption | (with_reducible refine (sv_ls (by first | omega | (simp only [List.length_set]; omega))).trans ?_; exact rfl) | with_reducible refine (List.getElem?_set_ne (by decide)).trans ?_)) ?_
          refine v_if_ne (tgt := 86) dX13_read_76 (by decide) (fun c_76 => ?_) (fun c_76 => ?_)
          · exact absurd rfl c_76
          · refine v_iconst (v := (-1)) dX13_read_79 (by decide) ?_
            refine v_aload_n dX13_read_80 rfl 2 rfl ?_
            refine v_getf 69 (ci := 11) (C := RX13) (T := TX13) (N := 71) rfl iwX13_read_X13 (Nat.le_of_ble_eq_true rfl) (by decide +kernel) dX13_read_81 (by repeat (first | (with_reducible refine sv_us.trans ?_; exact rfl) | with_reducible assumption | with_reducible refine (sv_un (by omega)).trans ?_)) (by repeat (first | with_reducible assumption | (with_reducible refine (sv_ls (by first | omega | (simp only [List.length_set]; omega))).trans ?_; exact rfl) | with_reducible refine (List.getElem?_set_ne (by decide)).trans ?_)) ?_
            refine v_isub dX13_read_84 ?_
            exact v_iret rfl dX13_read_85 (Nat.le_of_ble_eq_true rfl) (Nat.le_of_ble_eq_true rfl) rfl ⟨rfl, rfl, ⟨_, sv_us⟩, fun a q => by rw [sv_un q, eh7, sv_un q, eh6, sv_un q, eh5, sv_un q]⟩
        · exact absurd rfl c_32
      · exact absurd (by decide) c_55

