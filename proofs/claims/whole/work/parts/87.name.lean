theorem sv_e1 {a e : Nat} (ha : a < 1000) (he : e < 1000) (c : nI e = nI a + 1) : e = a + 1 := by
  rw [nI_1] at c
  exact (nI_eq (by omega) (by omega)).mp c
set_option maxHeartbeats 4000000 in
set_option maxRecDepth 100000 in
theorem m_is (G : sv_G) (h : sv_h) (z b n a e : Nat) (fs : List Value) (f tp : Nat → Int32) (ht2 : ab_I G h (b + 232) 600 f) (htp : ∀ i, i < n → f i = tp i) (hn : n ≤ 600) (hlen : fs.length = 71) (hmo : h (b + 220) = some (.inr (11, fs))) (f_from : fs[67]? = some (.int (nI a))) (f_to : fs[68]? = some (.int (nI e))) (f_tape : fs[16]? = some (.ref (b + 232))) (hae : a ≤ e) (hen : e ≤ n) (c : Int32) : CT G mX13_is [.ref (b + 220), .int c] h z (fun v h1 z1 => v = some (.int (if e = a + 1 ∧ tp a = c then 1 else 0)) ∧ h1 = h ∧ z1 = z) := by
  refine CT.of (by decide +kernel) rfl rfl (Nat.le_of_ble_eq_true rfl) ?_
  refine v_aload_n dX13_is_0 rfl 0 rfl ?_
  refine v_getf 68 (ci := 11) (C := RX13) (T := TX13) (N := 71) rfl iwX13_is_X13 (Nat.le_of_ble_eq_true rfl) (by decide +kernel) dX13_is_1 (by repeat (first | (with_reducible refine sv_us.trans ?_; exact rfl) | with_reducible assumption | with_reducible refine (sv_un (by omega)).trans ?_)) (by repeat (first | with_reducible assumption | (with_reducible refine (sv_ls (by first | omega | (simp only [List.length_set]; omega))).trans ?_; exact rfl) | with_reducible refine (List.getElem?_set_ne (by decide)).trans ?_)) ?_
  refine v_aload_n dX13_is_4 rfl 0 rfl ?_
  refine v_getf 67 (ci := 11) (C := RX13) (T := TX13) (N := 71) rfl iwX13_is_X13 (Nat.le_of_ble_eq_true rfl) (by decide +kernel) dX13_is_5 (by repeat (first | (with_reducible refine sv_us.trans ?_; exact rfl) | with_reducible assumption | with_reducible refine (sv_un (by omega)).trans ?_)) (by repeat (first | with_reducible assumption | (with_reducible refine (sv_ls (by first | omega | (simp only [List.length_set]; omega))).trans ?_; exact rfl) | with_reducible refine (List.getElem?_set_ne (by decide)).trans ?_)) ?_
  refine v_iconst (v := 1) dX13_is_8 (by decide) ?_
  refine v_iadd dX13_is_9 ?_
  refine v_icmp_ne (tgt := 30) dX13_is_10 (by decide) (fun c_10 => ?_) (fun c_10 => ?_)
  · refine v_iconst (v := 0) dX13_is_30 (by decide) ?_
    exact v_iret rfl dX13_is_31 (Nat.le_of_ble_eq_true rfl) (Nat.le_of_ble_eq_true rfl) rfl ⟨by first | exact congrArg (fun i => some (Value.int i)) (if_pos ⟨(show e = a + 1 from sv_e1 (by omega) (by omega) c_10), c_23⟩).symm | exact congrArg (fun i => some (Value.int i)) (if_neg (fun q => c_23 q.2)).symm | exact congrArg (fun i => some (Value.int i)) (if_neg (fun q => c_10 (by rw [q.1, nI_1]))).symm, rfl, rfl⟩
  · refine v_aload_n dX13_is_13 rfl 0 rfl ?_
    refine v_getf 16 (ci := 11) (C := RX13) (T := TX13) (N := 71) rfl iwX13_is_X13 (Nat.le_of_ble_eq_true rfl) (by decide +kernel) dX13_is_14 (by repeat (first | (with_reducible refine sv_us.trans ?_; exact rfl) | with_reducible assumption | with_reducible refine (sv_un (by omega)).trans ?_)) (by repeat (first | with_reducible assumption | (with_reducible refine (sv_ls (by first | omega | (simp only [List.length_set]; omega))).trans ?_; exact rfl) | with_reducible refine (List.getElem?_set_ne (by decide)).trans ?_)) ?_
    refine v_aload_n dX13_is_17 rfl 0 rfl ?_
    refine v_getf 67 (ci := 11) (C := RX13) (T := TX13) (N := 71) rfl iwX13_is_X13 (Nat.le_of_ble_eq_true rfl) (by decide +kernel) dX13_is_18 (by repeat (first | (with_reducible refine sv_us.trans ?_; exact rfl) | with_reducible assumption | with_reducible refine (sv_un (by omega)).trans ?_)) (by repeat (first | with_reducible assumption | (with_reducible refine (sv_ls (by first | omega | (simp only [List.length_set]; omega))).trans ?_; exact rfl) | with_reducible refine (List.getElem?_set_ne (by decide)).trans ?_)) ?_
    refine v_ialdS (v := tp a) dX13_is_21 (by repeat (first | (with_reducible refine sv_us.trans ?_; exact rfl) | with_reducible assumption | with_reducible refine (sv_un (by omega)).trans ?_)) (vp_in_nI (by have := (show e = a + 1 from sv_e1 (by omega) (by omega) c_10); omega) (by omega)) (by rw [nI_clamp (by omega)]; exact htp _ (by have := (show e = a + 1 from sv_e1 (by omega) (by omega) c_10); omega)) ?_
    refine v_iload_n dX13_is_22 rfl 1 rfl ?_
    refine v_icmp_ne (tgt := 30) dX13_is_23 (by decide) (fun c_23 => ?_) (fun c_23 => ?_)
    · refine v_iconst (v := 0) dX13_is_30 (by decide) ?_
      exact v_iret rfl dX13_is_31 (Nat.le_of_ble_eq_true rfl) (Nat.le_of_ble_eq_true rfl) rfl ⟨by first | exact congrArg (fun i => some (Value.int i)) (if_pos ⟨(show e = a + 1 from sv_e1 (by omega) (by omega) c_10), c_23⟩).symm | exact congrArg (fun i => some (Value.int i)) (if_neg (fun q => c_23 q.2)).symm | exact congrArg (fun i => some (Value.int i)) (if_neg (fun q => c_10 (by rw [q.1, nI_1]))).symm, rfl, rfl⟩
    · refine v_iconst (v := 1) dX13_is_26 (by decide) ?_
      refine v_goto (tgt := 31) dX13_is_27 (by decide) ?_
      exact v_iret rfl dX13_is_31 (Nat.le_of_ble_eq_true rfl) (Nat.le_of_ble_eq_true rfl) rfl ⟨by first | exact congrArg (fun i => some (Value.int i)) (if_pos ⟨(show e = a + 1 from sv_e1 (by omega) (by omega) c_10), c_23⟩).symm | exact congrArg (fun i => some (Value.int i)) (if_neg (fun q => c_23 q.2)).symm | exact congrArg (fun i => some (Value.int i)) (if_neg (fun q => c_10 (by rw [q.1, nI_1]))).symm, rfl, rfl⟩

theorem lx_m1 {t : Int32} (z0 : Int32) (z1 : Int64) (hz : z1.toInt = z0.toInt) (h0 : 0 ≤ z0.toInt ∧ z0.toInt ≤ 100) (h : t = 10 ∨ (32 ≤ t ∧ t ≤ 126)) : (t - z0).toInt64 = t.toInt64 - z1 := by
  have ht : 0 ≤ t.toInt ∧ t.toInt ≤ 126 := by
    rcases h with h | h
    · rw [h]; decide
    · have a := h.1
      have b := h.2
      rw [Int32.le_iff_toInt_le] at a b
      rw [show (32 : Int32).toInt = 32 by decide] at a
      rw [show (126 : Int32).toInt = 126 by decide] at b
      omega
  rw [← Int64.toInt_inj, Int32.toInt_toInt64, Int32.toInt_sub, Int64.toInt_sub, Int32.toInt_toInt64, hz]
  rw [Int.bmod_eq_of_le (by omega) (by omega), Int.bmod_eq_of_le (by omega) (by omega)]
theorem lx_m2 (v t z m : Int64) : m * v + t - z = v * m + (t - z) := by rw [Int64.mul_comm, Int64.sub_eq_add_neg, Int64.sub_eq_add_neg, Int64.add_assoc]
set_option maxHeartbeats 4000000 in
set_option maxRecDepth 100000 in
theorem l_name (G : sv_G) (h : sv_h) (z b n a e : Nat) (fs : List Value) (f tp : Nat → Int32) (ht2 : ab_I G h (b + 232) 600 f) (htp : ∀ i, i < n → f i = tp i) (hn : n ≤ 600) (hlen : fs.length = 71) (hmo : h (b + 220) = some (.inr (11, fs))) (f_from : fs[67]? = some (.int (nI a))) (f_to : fs[68]? = some (.int (nI e))) (f_tape : fs[16]? = some (.ref (b + 232))) (hae : a ≤ e) (hen : e ≤ n) (hok : ∀ i, i < n → tp i = 10 ∨ (32 ≤ tp i ∧ tp i ≤ 126)) : ∀ (c j : Nat), a + j + c = e → V G mX13_name (sv_MQ G mX13_name (fun v h1 z1 => v = some (.long (lx_va tp 96 27 a (e - a))) ∧ h1 = h ∧ z1 = z)) 49 [(3, .int (nI (a + j))), (1, .long (lx_va tp 96 27 a j)), (0, .ref (b + 220))] [] h z 0 0 := by
  intro c
  induction c with
  | zero =>
    intro j hjc
    refine v_iload_n dX13_name_49 rfl 0 rfl ?_
    refine v_aload_n dX13_name_50 rfl 2 rfl ?_
    refine v_getf 68 (ci := 11) (C := RX13) (T := TX13) (N := 71) rfl iwX13_name_X13 (Nat.le_of_ble_eq_true rfl) (by decide +kernel) dX13_name_51 (by repeat (first | (with_reducible refine sv_us.trans ?_; exact rfl) | with_reducible assumption | with_reducible refine (sv_un (by omega)).trans ?_)) (by repeat (first | with_reducible assumption | (with_reducible refine (sv_ls (by first | omega | (simp only [List.length_set]; omega))).trans ?_; exact rfl) | with_reducible refine (List.getElem?_set_ne (by decide)).trans ?_)) ?_
    refine v_icmp_ge (tgt := 81) dX13_name_54 (by decide) (fun c_54 => ?_) (fun c_54 => ?_)
    · refine v_lload_n dX13_name_81 rfl 1 rfl ?_
      exact v_lret rfl dX13_name_82 (Nat.le_of_ble_eq_true rfl) (Nat.le_of_ble_eq_true rfl) ⟨by rw [show e - a = j by omega], rfl, rfl⟩
    · exact absurd (show nI e ≤ nI (a + j) from nI_le (by omega) (by omega)) c_54
  | succ c ih =>
    intro j hjc
    refine v_iload_n dX13_name_49 rfl 0 rfl ?_
    refine v_aload_n dX13_name_50 rfl 2 rfl ?_
    refine v_getf 68 (ci := 11) (C := RX13) (T := TX13) (N := 71) rfl iwX13_name_X13 (Nat.le_of_ble_eq_true rfl) (by decide +kernel) dX13_name_51 (by repeat (first | (with_reducible refine sv_us.trans ?_; exact rfl) | with_reducible assumption | with_reducible refine (sv_un (by omega)).trans ?_)) (by repeat (first | with_reducible assumption | (with_reducible refine (sv_ls (by first | omega | (simp only [List.length_set]; omega))).trans ?_; exact rfl) | with_reducible refine (List.getElem?_set_ne (by decide)).trans ?_)) ?_
    refine v_icmp_ge (tgt := 81) dX13_name_54 (by decide) (fun c_54 => ?_) (fun c_54 => ?_)
    · exact absurd c_54 (nI_ge (by omega) (by omega))
    · refine v_ldc2 (v := (27)) (by decide +kernel) dX13_name_57 ?_
      refine v_lload_n dX13_name_60 rfl 1 rfl ?_
      refine v_lmul dX13_name_61 ?_
      refine v_aload_n dX13_name_62 rfl 2 rfl ?_
      refine v_getf 16 (ci := 11) (C := RX13) (T := TX13) (N := 71) rfl iwX13_name_X13 (Nat.le_of_ble_eq_true rfl) (by decide +kernel) dX13_name_63 (by repeat (first | (with_reducible refine sv_us.trans ?_; exact rfl) | with_reducible assumption | with_reducible refine (sv_un (by omega)).trans ?_)) (by repeat (first | with_reducible assumption | (with_reducible refine (sv_ls (by first | omega | (simp only [List.length_set]; omega))).trans ?_; exact rfl) | with_reducible refine (List.getElem?_set_ne (by decide)).trans ?_)) ?_
      refine v_iload_n dX13_name_66 rfl 0 rfl ?_
      refine v_ialdS (v := tp (a + j)) dX13_name_67 (by repeat (first | (with_reducible refine sv_us.trans ?_; exact rfl) | with_reducible assumption | with_reducible refine (sv_un (by omega)).trans ?_)) (vp_in_nI (by omega) (by omega)) (by rw [nI_clamp (by omega)]; exact htp _ (by omega)) ?_
      refine v_i2l dX13_name_68 rfl ?_
      refine v_ladd dX13_name_69 ?_
      refine v_ldc2 (v := (96)) (by decide +kernel) dX13_name_70 ?_
      refine v_lsub dX13_name_73 ?_
      refine v_lstore_n (L' := [(1, _), (3, _), (0, _)]) dX13_name_74 rfl (Nat.le_of_ble_eq_true rfl) rfl ?_
      refine v_iinc (j := 1) (L' := [(3, _), (1, _), (0, _)]) (v := nI (a + (j + 1))) dX13_name_75 rfl (nI_1 _) (Nat.le_of_ble_eq_true rfl) rfl ?_
      refine v_goto (tgt := 49) dX13_name_78 (by decide) ?_
      refine v_sub (L' := [(3, _), (1, _), (0, _)]) [0, 1, 2] rfl ?_
      have e9 := ih (j + 1) (by omega)
      rw [show lx_va tp 96 27 a (j + 1) = lx_va tp 96 27 a j * 27 + (tp (a + j) - 96).toInt64 from rfl, lx_m1 96 96 (by decide) (by decide) (hok _ (by omega)), ← lx_m2] at e9
      exact e9

set_option maxHeartbeats 4000000 in
set_option maxRecDepth 100000 in
theorem m_name (G : sv_G) (h : sv_h) (z b n a e : Nat) (fs : List Value) (f tp : Nat → Int32) (ht2 : ab_I G h (b + 232) 600 f) (htp : ∀ i, i < n → f i = tp i) (hn : n ≤ 600) (hlen : fs.length = 71) (hmo : h (b + 220) = some (.inr (11, fs))) (f_from : fs[67]? = some (.int (nI a))) (f_to : fs[68]? = some (.int (nI e))) (f_tape : fs[16]? = some (.ref (b + 232))) (hae : a ≤ e) (hen : e ≤ n) (hok : ∀ i, i < n → tp i = 10 ∨ (32 ≤ tp i ∧ tp i ≤ 126)) : CT G mX13_name [.ref (b + 220)] h z (fun v h1 z1 => v = some (.long (if a < e ∧ lx_so (tp a) = 2 ∧ e - a ≤ 8 then (lx_va tp 96 27 a (e - a)) else 0)) ∧ h1 = h ∧ z1 = z) := by
  refine CT.of (by decide +kernel) rfl rfl (Nat.le_of_ble_eq_true rfl) ?_
  refine v_aload_n dX13_name_0 rfl 0 rfl ?_
  refine v_getf 67 (ci := 11) (C := RX13) (T := TX13) (N := 71) rfl iwX13_name_X13 (Nat.le_of_ble_eq_true rfl) (by decide +kernel) dX13_name_1 (by repeat (first | (with_reducible refine sv_us.trans ?_; exact rfl) | with_reducible assumption | with_reducible refine (sv_un (by omega)).trans ?_)) (by repeat (first | with_reducible assumption | (with_reducible refine (sv_ls (by first | omega | (simp only [List.length_set]; omega))).trans ?_; exact rfl) | with_reducible refine (List.getElem?_set_ne (by decide)).trans ?_)) ?_
  refine v_aload_n dX13_name_4 rfl 0 rfl ?_
  refine v_getf 68 (ci := 11) (C := RX13) (T := TX13) (N := 71) rfl iwX13_name_X13 (Nat.le_of_ble_eq_true rfl) (by decide +kernel) dX13_name_5 (by repeat (first | (with_reducible refine sv_us.trans ?_; exact rfl) | with_reducible assumption | with_reducible refine (sv_un (by omega)).trans ?_)) (by repeat (first | with_reducible assumption | (with_reducible refine (sv_ls (by first | omega | (simp only [List.length_set]; omega))).trans ?_; exact rfl) | with_reducible refine (List.getElem?_set_ne (by decide)).trans ?_)) ?_
  refine v_icmp_eq (tgt := 40) dX13_name_8 (by decide) (fun c_8 => ?_) (fun c_8 => ?_)
  · refine v_lconst (v := 0) dX13_name_40 (by decide) ?_
    exact v_lret rfl dX13_name_41 (Nat.le_of_ble_eq_true rfl) (Nat.le_of_ble_eq_true rfl) ⟨by first | (have c9 : nI a = nI e := c_8; have c8 := (nI_eq (by omega) (by omega)).mp c9; exact congrArg (fun i => some (Value.long i)) (if_neg (fun q => absurd q.1 (by omega))).symm) | (have c9 : ¬ nI e - nI a ≤ 8 := c_37; rw [(show nI e - nI a = nI (e - a) from pk_sub hae)] at c9; exact congrArg (fun i => some (Value.long i)) (if_neg (fun q => c9 (nI_le (b := 8) q.2.2 (by omega)))).symm) | (have c7 := sv_ift c_23; exact congrArg (fun i => some (Value.long i)) (if_neg (fun q => c7 q.2.1)).symm), rfl, rfl⟩
  · refine v_aload_n dX13_name_11 rfl 0 rfl ?_
    refine v_getf 16 (ci := 11) (C := RX13) (T := TX13) (N := 71) rfl iwX13_name_X13 (Nat.le_of_ble_eq_true rfl) (by decide +kernel) dX13_name_12 (by repeat (first | (with_reducible refine sv_us.trans ?_; exact rfl) | with_reducible assumption | with_reducible refine (sv_un (by omega)).trans ?_)) (by repeat (first | with_reducible assumption | (with_reducible refine (sv_ls (by first | omega | (simp only [List.length_set]; omega))).trans ?_; exact rfl) | with_reducible refine (List.getElem?_set_ne (by decide)).trans ?_)) ?_
    refine v_aload_n dX13_name_15 rfl 0 rfl ?_
    refine v_getf 67 (ci := 11) (C := RX13) (T := TX13) (N := 71) rfl iwX13_name_X13 (Nat.le_of_ble_eq_true rfl) (by decide +kernel) dX13_name_16 (by repeat (first | (with_reducible refine sv_us.trans ?_; exact rfl) | with_reducible assumption | with_reducible refine (sv_un (by omega)).trans ?_)) (by repeat (first | with_reducible assumption | (with_reducible refine (sv_ls (by first | omega | (simp only [List.length_set]; omega))).trans ?_; exact rfl) | with_reducible refine (List.getElem?_set_ne (by decide)).trans ?_)) ?_
    refine v_ialdS (v := tp a) dX13_name_19 (by repeat (first | (with_reducible refine sv_us.trans ?_; exact rfl) | with_reducible assumption | with_reducible refine (sv_un (by omega)).trans ?_)) (vp_in_nI (by have := (show a < e by have c9 : ¬ nI a = nI e := c_8; have c8 : ¬ a = e := fun q => c9 (by rw [q]); omega); omega) (by omega)) (by rw [nI_clamp (by omega)]; exact htp _ (by have := (show a < e by have c9 : ¬ nI a = nI e := c_8; have c8 : ¬ a = e := fun q => c9 (by rw [q]); omega); omega)) ?_
    refine v_callSq (M' := mX13_isLetter) (n := 1) (As := [_]) ggX13_name_X13_isLetter (by decide +kernel) (by decide +kernel) (by decide +kernel) rfl (by decide +kernel) ⟨(Nat.le_of_ble_eq_true rfl), (Nat.le_of_ble_eq_true rfl)⟩ dX13_name_20 rfl ⟨(Nat.le_of_ble_eq_true rfl), (Nat.le_of_ble_eq_true rfl)⟩ (Nat.le_of_ble_eq_true rfl) rfl (m_isLetter G _ _ _) (fun v h1 z1 hq => v_pq hq ?_)
    refine v_if_eq (tgt := 40) dX13_name_23 (by decide) (fun c_23 => ?_) (fun c_23 => ?_)
    · refine v_lconst (v := 0) dX13_name_40 (by decide) ?_
      exact v_lret rfl dX13_name_41 (Nat.le_of_ble_eq_true rfl) (Nat.le_of_ble_eq_true rfl) ⟨by first | (have c9 : nI a = nI e := c_8; have c8 := (nI_eq (by omega) (by omega)).mp c9; exact congrArg (fun i => some (Value.long i)) (if_neg (fun q => absurd q.1 (by omega))).symm) | (have c9 : ¬ nI e - nI a ≤ 8 := c_37; rw [(show nI e - nI a = nI (e - a) from pk_sub hae)] at c9; exact congrArg (fun i => some (Value.long i)) (if_neg (fun q => c9 (nI_le (b := 8) q.2.2 (by omega)))).symm) | (have c7 := sv_ift c_23; exact congrArg (fun i => some (Value.long i)) (if_neg (fun q => c7 q.2.1)).symm), rfl, rfl⟩
    · refine v_aload_n dX13_name_26 rfl 0 rfl ?_
      refine v_getf 68 (ci := 11) (C := RX13) (T := TX13) (N := 71) rfl iwX13_name_X13 (Nat.le_of_ble_eq_true rfl) (by decide +kernel) dX13_name_27 (by repeat (first | (with_reducible refine sv_us.trans ?_; exact rfl) | with_reducible assumption | with_reducible refine (sv_un (by omega)).trans ?_)) (by repeat (first | with_reducible assumption | (with_reducible refine (sv_ls (by first | omega | (simp only [List.length_set]; omega))).trans ?_; exact rfl) | with_reducible refine (List.getElem?_set_ne (by decide)).trans ?_)) ?_
      refine v_aload_n dX13_name_30 rfl 0 rfl ?_
      refine v_getf 67 (ci := 11) (C := RX13) (T := TX13) (N := 71) rfl iwX13_name_X13 (Nat.le_of_ble_eq_true rfl) (by decide +kernel) dX13_name_31 (by repeat (first | (with_reducible refine sv_us.trans ?_; exact rfl) | with_reducible assumption | with_reducible refine (sv_un (by omega)).trans ?_)) (by repeat (first | with_reducible assumption | (with_reducible refine (sv_ls (by first | omega | (simp only [List.length_set]; omega))).trans ?_; exact rfl) | with_reducible refine (List.getElem?_set_ne (by decide)).trans ?_)) ?_
      refine v_isub dX13_name_34 ?_
      refine v_bipush (v := 8) dX13_name_35 (by decide) ?_
      refine v_icmp_le (tgt := 42) dX13_name_37 (by decide) (fun c_37 => ?_) (fun c_37 => ?_)
      · refine v_lconst (v := 0) dX13_name_42 (by decide) ?_
        refine v_lstore_n (L' := [(1, _), (0, _)]) dX13_name_43 rfl (Nat.le_of_ble_eq_true rfl) rfl ?_
        refine v_aload_n dX13_name_44 rfl 1 rfl ?_
        refine v_getf 67 (ci := 11) (C := RX13) (T := TX13) (N := 71) rfl iwX13_name_X13 (Nat.le_of_ble_eq_true rfl) (by decide +kernel) dX13_name_45 (by repeat (first | (with_reducible refine sv_us.trans ?_; exact rfl) | with_reducible assumption | with_reducible refine (sv_un (by omega)).trans ?_)) (by repeat (first | with_reducible assumption | (with_reducible refine (sv_ls (by first | omega | (simp only [List.length_set]; omega))).trans ?_; exact rfl) | with_reducible refine (List.getElem?_set_ne (by decide)).trans ?_)) ?_
        refine v_istore_n (L' := [(3, _), (1, _), (0, _)]) dX13_name_48 rfl (Nat.le_of_ble_eq_true rfl) rfl ?_
        refine v_sub (L' := [(3, _), (1, _), (0, _)]) [0, 1, 2] rfl ?_
        have c9 : nI e - nI a ≤ 8 := c_37
        rw [(show nI e - nI a = nI (e - a) from pk_sub hae)] at c9
        have c8 := (nI_leI (b := 8) (by omega) (by omega)).mp c9
        rw [if_pos ⟨(show a < e by have c9 : ¬ nI a = nI e := c_8; have c8 : ¬ a = e := fun q => c9 (by rw [q]); omega), sv_ifn c_23, c8⟩]
        exact l_name G h z b n a e fs f tp ht2 htp hn hlen hmo f_from f_to f_tape hae hen hok (e - a) 0 (by omega)
      · refine v_lconst (v := 0) dX13_name_40 (by decide) ?_
        exact v_lret rfl dX13_name_41 (Nat.le_of_ble_eq_true rfl) (Nat.le_of_ble_eq_true rfl) ⟨by first | (have c9 : nI a = nI e := c_8; have c8 := (nI_eq (by omega) (by omega)).mp c9; exact congrArg (fun i => some (Value.long i)) (if_neg (fun q => absurd q.1 (by omega))).symm) | (have c9 : ¬ nI e - nI a ≤ 8 := c_37; rw [(show nI e - nI a = nI (e - a) from pk_sub hae)] at c9; exact congrArg (fun i => some (Value.long i)) (if_neg (fun q => c9 (nI_le (b := 8) q.2.2 (by omega)))).symm) | (have c7 := sv_ift c_23; exact congrArg (fun i => some (Value.long i)) (if_neg (fun q => c7 q.2.1)).symm), rfl, rfl⟩

