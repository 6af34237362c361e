
theorem iwX12_unit_X12 : ∀ w ∈ wsX120, w ∈ wsX12_unit := by decide +kernel
theorem iwX13_unit_X13 : ∀ w ∈ wsX130, w ∈ wsX13_unit := by decide +kernel
set_option maxRecDepth 20000 in
theorem ggX12_unit_X9_takes : GoodIn wsX12_unit wsX9_takes := goodIn_r _ [6] (by decide +kernel) (by decide +kernel)
set_option maxRecDepth 20000 in
theorem gX12_unit_X9_takes : GoodIn wsX12_unit (wsV RX12 74 RX9 yX9_takes wsX9_takes) := goodIn_app (goodIn_of _ (by decide +kernel)) ggX12_unit_X9_takes
set_option maxRecDepth 20000 in
theorem ggX12_unit_X9_room : GoodIn wsX12_unit wsX9_room := goodIn_r _ [10, 11, 30, 31] (by decide +kernel) (by decide +kernel)
set_option maxRecDepth 20000 in
theorem gX12_unit_X9_room : GoodIn wsX12_unit (wsV RX12 78 RX9 yX9_room wsX9_room) := goodIn_app (goodIn_of _ (by decide +kernel)) ggX12_unit_X9_room
set_option maxRecDepth 20000 in
theorem ggX12_unit_X9_put : GoodIn wsX12_unit wsX9_put := goodIn_r _ [15, 11, 16, 30, 31] (by decide +kernel) (by decide +kernel)
set_option maxRecDepth 20000 in
theorem gX12_unit_X9_put : GoodIn wsX12_unit (wsV RX12 82 RX9 yX9_put wsX9_put) := goodIn_app (goodIn_of _ (by decide +kernel)) ggX12_unit_X9_put
theorem dX12_unit_0 : decode cX12_unit 0 = .ok (.aload_n 0, 1) := by decide +kernel
theorem dX12_unit_1 : decode cX12_unit 1 = .ok (.getfield 22, 3) := by decide +kernel
theorem dX12_unit_4 : decode cX12_unit 4 = .ok (.iload_n 1, 1) := by decide +kernel
theorem dX12_unit_5 : decode cX12_unit 5 = .ok (.invokevirtual 74, 3) := by decide +kernel
theorem dX12_unit_8 : decode cX12_unit 8 = .ok (.ifCond .eq 14, 3) := by decide +kernel
theorem dX12_unit_11 : decode cX12_unit 11 = .ok (.aload_n 0, 1) := by decide +kernel
theorem dX12_unit_12 : decode cX12_unit 12 = .ok (.getfield 22, 3) := by decide +kernel
theorem dX12_unit_15 : decode cX12_unit 15 = .ok (.invokevirtual 78, 3) := by decide +kernel
theorem dX12_unit_18 : decode cX12_unit 18 = .ok (.iconst 1, 1) := by decide +kernel
theorem dX12_unit_19 : decode cX12_unit 19 = .ok (.if_icmp .ge 5, 3) := by decide +kernel
theorem dX12_unit_22 : decode cX12_unit 22 = .ok (.iconst 0, 1) := by decide +kernel
theorem dX12_unit_23 : decode cX12_unit 23 = .ok (.ireturn, 1) := by decide +kernel
theorem dX12_unit_24 : decode cX12_unit 24 = .ok (.aload_n 0, 1) := by decide +kernel
theorem dX12_unit_25 : decode cX12_unit 25 = .ok (.getfield 22, 3) := by decide +kernel
theorem dX12_unit_28 : decode cX12_unit 28 = .ok (.iload_n 1, 1) := by decide +kernel
theorem dX12_unit_29 : decode cX12_unit 29 = .ok (.invokevirtual 82, 3) := by decide +kernel
theorem dX12_unit_32 : decode cX12_unit 32 = .ok (.iconst 1, 1) := by decide +kernel
theorem dX12_unit_33 : decode cX12_unit 33 = .ok (.ireturn, 1) := by decide +kernel
theorem dX13_isCharacter_0 : decode cX13_isCharacter 0 = .ok (.iload_n 0, 1) := by decide +kernel
theorem dX13_isCharacter_1 : decode cX13_isCharacter 1 = .ok (.bipush 32, 2) := by decide +kernel
theorem dX13_isCharacter_3 : decode cX13_isCharacter 3 = .ok (.if_icmp .lt 9, 3) := by decide +kernel
theorem dX13_isCharacter_6 : decode cX13_isCharacter 6 = .ok (.iload_n 0, 1) := by decide +kernel
theorem dX13_isCharacter_7 : decode cX13_isCharacter 7 = .ok (.bipush 126, 2) := by decide +kernel
theorem dX13_isCharacter_9 : decode cX13_isCharacter 9 = .ok (.if_icmp .le 9, 3) := by decide +kernel
theorem dX13_isCharacter_12 : decode cX13_isCharacter 12 = .ok (.iload_n 0, 1) := by decide +kernel
theorem dX13_isCharacter_13 : decode cX13_isCharacter 13 = .ok (.bipush 10, 2) := by decide +kernel
theorem dX13_isCharacter_15 : decode cX13_isCharacter 15 = .ok (.if_icmp .ne 7, 3) := by decide +kernel
theorem dX13_isCharacter_18 : decode cX13_isCharacter 18 = .ok (.iconst 1, 1) := by decide +kernel
theorem dX13_isCharacter_19 : decode cX13_isCharacter 19 = .ok (.goto 4, 3) := by decide +kernel
theorem dX13_isCharacter_22 : decode cX13_isCharacter 22 = .ok (.iconst 0, 1) := by decide +kernel
theorem dX13_isCharacter_23 : decode cX13_isCharacter 23 = .ok (.ireturn, 1) := by decide +kernel
set_option maxRecDepth 20000 in
theorem ggX13_unit_X13_isCharacter : GoodIn wsX13_unit wsX13_isCharacter := goodIn_r _ [7] (by decide +kernel) (by decide +kernel)
theorem dX13_unit_0 : decode cX13_unit 0 = .ok (.aload_n 0, 1) := by decide +kernel
theorem dX13_unit_1 : decode cX13_unit 1 = .ok (.iconst 0, 1) := by decide +kernel
theorem dX13_unit_2 : decode cX13_unit 2 = .ok (.putfield 141, 3) := by decide +kernel
theorem dX13_unit_5 : decode cX13_unit 5 = .ok (.iload_n 1, 1) := by decide +kernel
theorem dX13_unit_6 : decode cX13_unit 6 = .ok (.invokestatic 380, 3) := by decide +kernel
theorem dX13_unit_9 : decode cX13_unit 9 = .ok (.ifCond .eq 13, 3) := by decide +kernel
theorem dX13_unit_12 : decode cX13_unit 12 = .ok (.aload_n 0, 1) := by decide +kernel
theorem dX13_unit_13 : decode cX13_unit 13 = .ok (.getfield 377, 3) := by decide +kernel
theorem dX13_unit_16 : decode cX13_unit 16 = .ok (.sipush 600, 3) := by decide +kernel
theorem dX13_unit_19 : decode cX13_unit 19 = .ok (.if_icmp .ne 5, 3) := by decide +kernel
theorem dX13_unit_22 : decode cX13_unit 22 = .ok (.iconst 0, 1) := by decide +kernel
theorem dX13_unit_23 : decode cX13_unit 23 = .ok (.ireturn, 1) := by decide +kernel
theorem dX13_unit_24 : decode cX13_unit 24 = .ok (.aload_n 0, 1) := by decide +kernel
theorem dX13_unit_25 : decode cX13_unit 25 = .ok (.getfield 44, 3) := by decide +kernel
theorem dX13_unit_28 : decode cX13_unit 28 = .ok (.aload_n 0, 1) := by decide +kernel
theorem dX13_unit_29 : decode cX13_unit 29 = .ok (.getfield 377, 3) := by decide +kernel
theorem dX13_unit_32 : decode cX13_unit 32 = .ok (.iload_n 1, 1) := by decide +kernel
theorem dX13_unit_33 : decode cX13_unit 33 = .ok (.iastore, 1) := by decide +kernel
theorem dX13_unit_34 : decode cX13_unit 34 = .ok (.aload_n 0, 1) := by decide +kernel
theorem dX13_unit_35 : decode cX13_unit 35 = .ok (.dup, 1) := by decide +kernel
theorem dX13_unit_36 : decode cX13_unit 36 = .ok (.getfield 377, 3) := by decide +kernel
theorem dX13_unit_39 : decode cX13_unit 39 = .ok (.iconst 1, 1) := by decide +kernel
theorem dX13_unit_40 : decode cX13_unit 40 = .ok (.iadd, 1) := by decide +kernel
theorem dX13_unit_41 : decode cX13_unit 41 = .ok (.putfield 377, 3) := by decide +kernel
theorem dX13_unit_44 : decode cX13_unit 44 = .ok (.iconst 1, 1) := by decide +kernel
theorem dX13_unit_45 : decode cX13_unit 45 = .ok (.ireturn, 1) := by decide +kernel

set_option maxHeartbeats 4000000 in
set_option maxRecDepth 100000 in
theorem c_Tape_takes (G : sv_G) (h : sv_h) (z t : Nat) (u : Int32) : CT G mX9_takes [.ref t, .int u] h z (fun v h1 z1 => v = some (.int (if (u = 10 ∨ (32 ≤ u ∧ u ≤ 126)) then 1 else 0)) ∧ h1 = h ∧ z1 = z) := by
  refine CT.of (by decide +kernel) rfl rfl (Nat.le_of_ble_eq_true rfl) ?_
  refine v_iload_n dX9_takes_0 rfl 1 rfl ?_
  refine v_bipush (v := 10) dX9_takes_1 (by decide) ?_
  refine v_icmp_eq (tgt := 18) dX9_takes_3 (by decide) (fun c_3 => ?_) (fun c_3 => ?_)
  · refine v_iconst (v := 1) dX9_takes_18 (by decide) ?_
    refine v_goto (tgt := 23) dX9_takes_19 (by decide) ?_
    exact v_iret rfl dX9_takes_23 (Nat.le_of_ble_eq_true rfl) (Nat.le_of_ble_eq_true rfl) rfl ⟨by simp only [Int32.lt_iff_toInt_lt, Int32.le_iff_toInt_le, sv_i0, sv_i1, sv_i2, sv_i3, sv_i4, sv_i5, sv_i6, sv_i7, sv_i8, sv_i9, sv_i10, sv_i16, sv_i17, sv_i20, sv_i32, sv_i40, sv_i64, sv_i100, sv_i126, sv_i255, sv_i600, sv_i1500, sv_i65536, sv_im1, ← Int32.toInt_inj] at *; first | (rw [if_pos (by omega)]) | (rw [if_neg (by omega)]), rfl, rfl⟩
  · refine v_iload_n dX9_takes_6 rfl 1 rfl ?_
    refine v_bipush (v := 32) dX9_takes_7 (by decide) ?_
    refine v_icmp_lt (tgt := 22) dX9_takes_9 (by decide) (fun c_9 => ?_) (fun c_9 => ?_)
    · refine v_iconst (v := 0) dX9_takes_22 (by decide) ?_
      exact v_iret rfl dX9_takes_23 (Nat.le_of_ble_eq_true rfl) (Nat.le_of_ble_eq_true rfl) rfl ⟨by simp only [Int32.lt_iff_toInt_lt, Int32.le_iff_toInt_le, sv_i0, sv_i1, sv_i2, sv_i3, sv_i4, sv_i5, sv_i6, sv_i7, sv_i8, sv_i9, sv_i10, sv_i16, sv_i17, sv_i20, sv_i32, sv_i40, sv_i64, sv_i100, sv_i126, sv_i255, sv_i600, sv_i1500, sv_i65536, sv_im1, ← Int32.toInt_inj] at *; first | (rw [if_pos (by omega)]) | (rw [if_neg (by omega)]), rfl, rfl⟩
    · refine v_iload_n dX9_takes_12 rfl 1 rfl ?_
      refine v_bipush (v := 126) dX9_takes_13 (by decide) ?_
      refine v_icmp_gt (tgt := 22) dX9_takes_15 (by decide) (fun c_15 => ?_) (fun c_15 => ?_)
      · refine v_iconst (v := 0) dX9_takes_22 (by decide) ?_
        exact v_iret rfl dX9_takes_23 (Nat.le_of_ble_eq_true rfl) (Nat.le_of_ble_eq_true rfl) rfl ⟨by simp only [Int32.lt_iff_toInt_lt, Int32.le_iff_toInt_le, sv_i0, sv_i1, sv_i2, sv_i3, sv_i4, sv_i5, sv_i6, sv_i7, sv_i8, sv_i9, sv_i10, sv_i16, sv_i17, sv_i20, sv_i32, sv_i40, sv_i64, sv_i100, sv_i126, sv_i255, sv_i600, sv_i1500, sv_i65536, sv_im1, ← Int32.toInt_inj] at *; first | (rw [if_pos (by omega)]) | (rw [if_neg (by omega)]), rfl, rfl⟩
      · refine v_iconst (v := 1) dX9_takes_18 (by decide) ?_
        refine v_goto (tgt := 23) dX9_takes_19 (by decide) ?_
        exact v_iret rfl dX9_takes_23 (Nat.le_of_ble_eq_true rfl) (Nat.le_of_ble_eq_true rfl) rfl ⟨by simp only [Int32.lt_iff_toInt_lt, Int32.le_iff_toInt_le, sv_i0, sv_i1, sv_i2, sv_i3, sv_i4, sv_i5, sv_i6, sv_i7, sv_i8, sv_i9, sv_i10, sv_i16, sv_i17, sv_i20, sv_i32, sv_i40, sv_i64, sv_i100, sv_i126, sv_i255, sv_i600, sv_i1500, sv_i65536, sv_im1, ← Int32.toInt_inj] at *; first | (rw [if_pos (by omega)]) | (rw [if_neg (by omega)]), rfl, rfl⟩

set_option maxHeartbeats 4000000 in
set_option maxRecDepth 100000 in
theorem c_Tape_put (G : sv_G) (h : sv_h) (z t A n : Nat) (f : Nat → Int32) (u : Int32) (hn : n < 600) (ht : h t = some (.inr (7, [.ref A, .int (nI n)]))) (hA : h A = some (.inl (G.2.2.1 0, 600, .inl f))) (hne : t ≠ A) : CT G mX9_put [.ref t, .int u] h z (fun v h1 z1 => v = none ∧ h1 = va_up (va_up h A (some (.inl (G.2.2.1 0, 600, .inl (upd f n u))))) t (some (.inr (7, [.ref A, .int (nI (n + 1))]))) ∧ z1 = z) := by
  refine CT.of (by decide +kernel) rfl rfl (Nat.le_of_ble_eq_true rfl) ?_
  refine v_aload_n dX9_put_0 rfl 0 rfl ?_
  refine v_getf 1 (ci := 7) (C := RX9) (T := TX9) (N := 2) rfl iwX9_put_X9 (Nat.le_of_ble_eq_true rfl) (by decide +kernel) dX9_put_1 (by repeat (first | (with_reducible refine sv_us.trans ?_; exact rfl) | with_reducible assumption | with_reducible refine (sv_un (by omega)).trans ?_)) rfl ?_
  refine v_sipush (v := 600) dX9_put_4 (by decide) ?_
  refine v_icmp_ge (tgt := 30) dX9_put_7 (by decide) (fun c_7 => ?_) (fun c_7 => ?_)
  · exact absurd c_7 (nI_ge (a := n) (b := 600) hn (by omega))
  · refine v_aload_n dX9_put_10 rfl 0 rfl ?_
    refine v_getf 0 (ci := 7) (C := RX9) (T := TX9) (N := 2) rfl iwX9_put_X9 (Nat.le_of_ble_eq_true rfl) (by decide +kernel) dX9_put_11 (by repeat (first | (with_reducible refine sv_us.trans ?_; exact rfl) | with_reducible assumption | with_reducible refine (sv_un (by omega)).trans ?_)) rfl ?_
    refine v_aload_n dX9_put_14 rfl 0 rfl ?_
    refine v_getf 1 (ci := 7) (C := RX9) (T := TX9) (N := 2) rfl iwX9_put_X9 (Nat.le_of_ble_eq_true rfl) (by decide +kernel) dX9_put_15 (by repeat (first | (with_reducible refine sv_us.trans ?_; exact rfl) | with_reducible assumption | with_reducible refine (sv_un (by omega)).trans ?_)) rfl ?_
    refine v_iload_n dX9_put_18 rfl 1 rfl ?_
    refine v_iast dX9_put_19 (by repeat (first | (with_reducible refine sv_us.trans ?_; exact rfl) | with_reducible assumption | with_reducible refine (sv_un (by omega)).trans ?_)) (vp_in_nI hn (by omega)) ?_
    refine v_aload_n dX9_put_20 rfl 0 rfl ?_
    refine v_dup dX9_put_21 rfl ?_
    refine v_getf 1 (ci := 7) (C := RX9) (T := TX9) (N := 2) rfl iwX9_put_X9 (Nat.le_of_ble_eq_true rfl) (by decide +kernel) dX9_put_22 (by repeat (first | (with_reducible refine sv_us.trans ?_; exact rfl) | with_reducible assumption | with_reducible refine (sv_un (by omega)).trans ?_)) rfl ?_
    refine v_iconst (v := 1) dX9_put_25 (by decide) ?_
    refine v_iadd dX9_put_26 ?_
    refine v_putf 1 (fs' := [_, _]) (ci := 7) (C := RX9) (T := TX9) (N := 2) (ty := .int) rfl iwX9_put_X9 tyX9 tyX9_ok nmX9 (Nat.le_of_ble_eq_true rfl) (by decide +kernel) rfl rfl dX9_put_27 rfl rfl (by repeat (first | (with_reducible refine sv_us.trans ?_; exact rfl) | with_reducible assumption | with_reducible refine (sv_un (by omega)).trans ?_)) (Nat.le_of_ble_eq_true rfl) rfl ?_
    exact v_ret rfl dX9_put_30 (Nat.le_of_ble_eq_true rfl) (Nat.le_of_ble_eq_true rfl) ⟨rfl, by rw [nI_clamp (by omega), nI_1], rfl⟩

theorem sv_ifn {c : Prop} [Decidable c] (h : ¬ (if c then 1 else 0 : Int32) = 0) : c := by
  by_cases q : c
  · exact q
  · rw [if_neg q] at h; exact absurd rfl h
theorem sv_ift {c : Prop} [Decidable c] (h : (if c then 1 else 0 : Int32) = 0) : ¬ c := by
  intro q
  rw [if_pos q] at h
  exact absurd h (by decide)
theorem sv_rm {n : Nat} (hn : n ≤ 600) (h : (1 : Int32) ≤ 600 - nI n) : n < 600 := by
  have e : (600 : Int32) - nI n = nI (600 - n) := pk_sub (a := 600) hn
  rw [e] at h
  have := (nI_leI (a := 1) (by omega) (by omega)).mp h
  omega
theorem sv_rn {n : Nat} (h : ¬ (1 : Int32) ≤ 600 - nI n) : ¬ n < 600 := by
  intro q
  apply h
  have e : (600 : Int32) - nI n = nI (600 - n) := pk_sub (a := 600) (by omega)
  rw [e]
  exact (nI_leI (a := 1) (by omega) (by omega)).mpr (by omega)
set_option maxHeartbeats 4000000 in
set_option maxRecDepth 100000 in
theorem c_unit (G : sv_G) (h : sv_h) (z b : Nat) (u : Int32) (ly tp rd ck wv ru la fo fl lo : Nat) (rc lr lf : Int32) (hb : h b = some (.inr (10, [.ref ly, .ref tp, .ref rd, .ref ck, .ref wv, .ref ru, .int rc, .int lr, .int lf, .ref la, .ref fo, .ref fl, .ref lo]))) (A n : Nat) (f : Nat → Int32) (hn : n ≤ 600) (ht : h tp = some (.inr (7, [.ref A, .int (nI n)]))) (hA : h A = some (.inl (G.2.2.1 0, 600, .inl f))) (hne : tp ≠ A) : CT G mX12_unit [.ref b, .int u] h z (fun v h1 z1 => z1 = z ∧ (((u = 10 ∨ (32 ≤ u ∧ u ≤ 126)) ∧ n < 600 ∧ v = some (.int 1) ∧ h1 = va_up (va_up h A (some (.inl (G.2.2.1 0, 600, .inl (upd f n u))))) tp (some (.inr (7, [.ref A, .int (nI (n + 1))])))) ∨ (¬ ((u = 10 ∨ (32 ≤ u ∧ u ≤ 126)) ∧ n < 600) ∧ v = some (.int 0) ∧ h1 = h))) := by
  refine CT.of (by decide +kernel) rfl rfl (Nat.le_of_ble_eq_true rfl) ?_
  refine v_aload_n dX12_unit_0 rfl 0 rfl ?_
  refine v_getf 1 (ci := 10) (C := RX12) (T := TX12) (N := 13) rfl iwX12_unit_X12 (Nat.le_of_ble_eq_true rfl) (by decide +kernel) dX12_unit_1 (by repeat (first | (with_reducible refine sv_us.trans ?_; exact rfl) | with_reducible assumption | with_reducible refine (sv_un (by omega)).trans ?_)) rfl ?_
  refine v_iload_n dX12_unit_4 rfl 1 rfl ?_
  refine v_callV (M' := mX9_takes) (n := 1) (As := [_]) (ci := 7) (r := (RX9, TX9, 2)) gX12_unit_X9_takes rfl (by decide +kernel) ⟨(Nat.le_of_ble_eq_true rfl), (Nat.le_of_ble_eq_true rfl)⟩ rfl rfl dX12_unit_5 rfl ⟨(Nat.le_of_ble_eq_true rfl), (Nat.le_of_ble_eq_true rfl)⟩ (Nat.le_of_ble_eq_true rfl) (by repeat (first | (with_reducible refine sv_us.trans ?_; exact rfl) | with_reducible assumption | with_reducible refine (sv_un (by omega)).trans ?_)) rfl (c_Tape_takes G _ _ _ u) (fun v h1 z1 hq => ?_)
  obtain ⟨rfl, rfl, rfl⟩ := hq
  refine v_if_eq (tgt := 22) dX12_unit_8 (by decide) (fun c_8 => ?_) (fun c_8 => ?_)
  · refine v_iconst (v := 0) dX12_unit_22 (by decide) ?_
    exact v_iret rfl dX12_unit_23 (Nat.le_of_ble_eq_true rfl) (Nat.le_of_ble_eq_true rfl) rfl ⟨rfl, Or.inr ⟨fun q => absurd q.1 (sv_ift c_8), rfl, rfl⟩⟩
  · refine v_aload_n dX12_unit_11 rfl 0 rfl ?_
    refine v_getf 1 (ci := 10) (C := RX12) (T := TX12) (N := 13) rfl iwX12_unit_X12 (Nat.le_of_ble_eq_true rfl) (by decide +kernel) dX12_unit_12 (by repeat (first | (with_reducible refine sv_us.trans ?_; exact rfl) | with_reducible assumption | with_reducible refine (sv_un (by omega)).trans ?_)) rfl ?_
    refine v_callV (M' := mX9_room) (n := 0) (As := []) (ci := 7) (r := (RX9, TX9, 2)) gX12_unit_X9_room rfl (by decide +kernel) ⟨(Nat.le_of_ble_eq_true rfl), (Nat.le_of_ble_eq_true rfl)⟩ rfl rfl dX12_unit_15 rfl ⟨(Nat.le_of_ble_eq_true rfl), (Nat.le_of_ble_eq_true rfl)⟩ (Nat.le_of_ble_eq_true rfl) (by repeat (first | (with_reducible refine sv_us.trans ?_; exact rfl) | with_reducible assumption | with_reducible refine (sv_un (by omega)).trans ?_)) rfl (c_Tape_room G _ _ _ _ _ ht) (fun v h1 z1 hq => ?_)
    obtain ⟨rfl, rfl, rfl⟩ := hq
    refine v_iconst (v := 1) dX12_unit_18 (by decide) ?_
    refine v_icmp_ge (tgt := 24) dX12_unit_19 (by decide) (fun c_19 => ?_) (fun c_19 => ?_)
    · refine v_aload_n dX12_unit_24 rfl 0 rfl ?_
      refine v_getf 1 (ci := 10) (C := RX12) (T := TX12) (N := 13) rfl iwX12_unit_X12 (Nat.le_of_ble_eq_true rfl) (by decide +kernel) dX12_unit_25 (by repeat (first | (with_reducible refine sv_us.trans ?_; exact rfl) | with_reducible assumption | with_reducible refine (sv_un (by omega)).trans ?_)) rfl ?_
      refine v_iload_n dX12_unit_28 rfl 1 rfl ?_
      refine v_callV (M' := mX9_put) (n := 1) (As := [_]) (ci := 7) (r := (RX9, TX9, 2)) gX12_unit_X9_put rfl (by decide +kernel) ⟨(Nat.le_of_ble_eq_true rfl), (Nat.le_of_ble_eq_true rfl)⟩ rfl rfl dX12_unit_29 rfl ⟨(Nat.le_of_ble_eq_true rfl), (Nat.le_of_ble_eq_true rfl)⟩ (Nat.le_of_ble_eq_true rfl) (by repeat (first | (with_reducible refine sv_us.trans ?_; exact rfl) | with_reducible assumption | with_reducible refine (sv_un (by omega)).trans ?_)) rfl (c_Tape_put G _ _ _ A n f u (sv_rm hn c_19) ht hA hne) (fun v h1 z1 hq => ?_)
      obtain ⟨rfl, rfl, rfl⟩ := hq
      refine v_iconst (v := 1) dX12_unit_32 (by decide) ?_
      exact v_iret rfl dX12_unit_33 (Nat.le_of_ble_eq_true rfl) (Nat.le_of_ble_eq_true rfl) rfl ⟨rfl, Or.inl ⟨(sv_ifn c_8), sv_rm hn c_19, rfl, rfl⟩⟩
    · refine v_iconst (v := 0) dX12_unit_22 (by decide) ?_
      exact v_iret rfl dX12_unit_23 (Nat.le_of_ble_eq_true rfl) (Nat.le_of_ble_eq_true rfl) rfl ⟨rfl, Or.inr ⟨fun q => absurd q.2 (sv_rn c_19), rfl, rfl⟩⟩

abbrev mX13_isCharacter : sv_M := (cX13_isCharacter, 1, yX13_isCharacter, wsX13_isCharacter, (some .boolean), { frames := 0, cells := 0, slots := 0, locals := 0 }, [])
set_option maxHeartbeats 4000000 in
set_option maxRecDepth 100000 in
theorem m_isCharacter (G : sv_G) (h : sv_h) (z : Nat) (u : Int32) : CT G mX13_isCharacter [.int u] h z (fun v h1 z1 => v = some (.int (if (u = 10 ∨ (32 ≤ u ∧ u ≤ 126)) then 1 else 0)) ∧ h1 = h ∧ z1 = z) := by
  refine CT.of (by decide +kernel) rfl rfl (Nat.le_of_ble_eq_true rfl) ?_
  refine v_iload_n dX13_isCharacter_0 rfl 0 rfl ?_
  refine v_bipush (v := 32) dX13_isCharacter_1 (by decide) ?_
  refine v_icmp_lt (tgt := 12) dX13_isCharacter_3 (by decide) (fun c_3 => ?_) (fun c_3 => ?_)
  · refine v_iload_n dX13_isCharacter_12 rfl 0 rfl ?_
    refine v_bipush (v := 10) dX13_isCharacter_13 (by decide) ?_
    refine v_icmp_ne (tgt := 22) dX13_isCharacter_15 (by decide) (fun c_15 => ?_) (fun c_15 => ?_)
    · refine v_iconst (v := 0) dX13_isCharacter_22 (by decide) ?_
      exact v_iret rfl dX13_isCharacter_23 (Nat.le_of_ble_eq_true rfl) (Nat.le_of_ble_eq_true rfl) rfl ⟨by simp only [Int32.lt_iff_toInt_lt, Int32.le_iff_toInt_le, sv_i0, sv_i1, sv_i2, sv_i3, sv_i4, sv_i5, sv_i6, sv_i7, sv_i8, sv_i9, sv_i10, sv_i16, sv_i17, sv_i20, sv_i32, sv_i40, sv_i64, sv_i100, sv_i126, sv_i255, sv_i600, sv_i1500, sv_i65536, sv_im1, ← Int32.toInt_inj] at *; first | (rw [if_pos (by omega)]) | (rw [if_neg (by omega)]), rfl, rfl⟩
    · refine v_iconst (v := 1) dX13_isCharacter_18 (by decide) ?_
      refine v_goto (tgt := 23) dX13_isCharacter_19 (by decide) ?_
      exact v_iret rfl dX13_isCharacter_23 (Nat.le_of_ble_eq_true rfl) (Nat.le_of_ble_eq_true rfl) rfl ⟨by simp only [Int32.lt_iff_toInt_lt, Int32.le_iff_toInt_le, sv_i0, sv_i1, sv_i2, sv_i3, sv_i4, sv_i5, sv_i6, sv_i7, sv_i8, sv_i9, sv_i10, sv_i16, sv_i17, sv_i20, sv_i32, sv_i40, sv_i64, sv_i100, sv_i126, sv_i255, sv_i600, sv_i1500, sv_i65536, sv_im1, ← Int32.toInt_inj] at *; first | (rw [if_pos (by omega)]) | (rw [if_neg (by omega)]), rfl, rfl⟩
  · refine v_iload_n dX13_isCharacter_6 rfl 0 rfl ?_
    refine v_bipush (v := 126) dX13_isCharacter_7 (by decide) ?_
    refine v_icmp_le (tgt := 18) dX13_isCharacter_9 (by decide) (fun c_9 => ?_) (fun c_9 => ?_)
    · refine v_iconst (v := 1) dX13_isCharacter_18 (by decide) ?_
      refine v_goto (tgt := 23) dX13_isCharacter_19 (by decide) ?_
      exact v_iret rfl dX13_isCharacter_23 (Nat.le_of_ble_eq_true rfl) (Nat.le_of_ble_eq_true rfl) rfl ⟨by simp only [Int32.lt_iff_toInt_lt, Int32.le_iff_toInt_le, sv_i0, sv_i1, sv_i2, sv_i3, sv_i4, sv_i5, sv_i6, sv_i7, sv_i8, sv_i9, sv_i10, sv_i16, sv_i17, sv_i20, sv_i32, sv_i40, sv_i64, sv_i100, sv_i126, sv_i255, sv_i600, sv_i1500, sv_i65536, sv_im1, ← Int32.toInt_inj] at *; first | (rw [if_pos (by omega)]) | (rw [if_neg (by omega)]), rfl, rfl⟩
    · refine v_iload_n dX13_isCharacter_12 rfl 0 rfl ?_
      refine v_bipush (v := 10) dX13_isCharacter_13 (by decide) ?_
      refine v_icmp_ne (tgt := 22) dX13_isCharacter_15 (by decide) (fun c_15 => ?_) (fun c_15 => ?_)
      · refine v_iconst (v := 0) dX13_isCharacter_22 (by decide) ?_
        exact v_iret rfl dX13_isCharacter_23 (Nat.le_of_ble_eq_true rfl) (Nat.le_of_ble_eq_true rfl) rfl ⟨by simp only [Int32.lt_iff_toInt_lt, Int32.le_iff_toInt_le, sv_i0, sv_i1, sv_i2, sv_i3, sv_i4, sv_i5, sv_i6, sv_i7, sv_i8, sv_i9, sv_i10, sv_i16, sv_i17, sv_i20, sv_i32, sv_i40, sv_i64, sv_i100, sv_i126, sv_i255, sv_i600, sv_i1500, sv_i65536, sv_im1, ← Int32.toInt_inj] at *; first | (rw [if_pos (by omega)]) | (rw [if_neg (by omega)]), rfl, rfl⟩
      · refine v_iconst (v := 1) dX13_isCharacter_18 (by decide) ?_
        refine v_goto (tgt := 23) dX13_isCharacter_19 (by decide) ?_
        exact v_iret rfl dX13_isCharacter_23 (Nat.le_of_ble_eq_true rfl) (Nat.le_of_ble_eq_true rfl) rfl ⟨by simp only [Int32.lt_iff_toInt_lt, Int32.le_iff_toInt_le, sv_i0, sv_i1, sv_i2, sv_i3, sv_i4, sv_i5, sv_i6, sv_i7, sv_i8, sv_i9, sv_i10, sv_i16, sv_i17, sv_i20, sv_i32, sv_i40, sv_i64, sv_i100, sv_i126, sv_i255, sv_i600, sv_i1500, sv_i65536, sv_im1, ← Int32.toInt_inj] at *; first | (rw [if_pos (by omega)]) | (rw [if_neg (by omega)]), rfl, rfl⟩

theorem sv_l6 {n : Nat} (hn : n ≤ 600) (h : ¬ nI n = (600 : Int32)) : n < 600 := by
  have : ¬ n = 600 := fun q => h (by rw [q]; rfl)
  omega
set_option maxHeartbeats 4000000 in
set_option maxRecDepth 100000 in
theorem m_unit (G : sv_G) (h : sv_h) (z m : Nat) (fs : List Value) (hlen : fs.length = 71) (hm : h m = some (.inr (11, fs))) (u : Int32) (A n : Nat) (f : Nat → Int32) (hn : n ≤ 600) (f_tape : fs[16]? = some (.ref A)) (f_length : fs[17]? = some (.int (nI n))) (hA : h A = some (.inl (G.2.2.1 0, 600, .inl f))) (hne : m ≠ A) : CT G mX13_unit [.ref m, .int u] h z (fun v h1 z1 => z1 = z ∧ (((u = 10 ∨ (32 ≤ u ∧ u ≤ 126)) ∧ n < 600 ∧ v = some (.int 1) ∧ h1 = va_up (va_up h A (some (.inl (G.2.2.1 0, 600, .inl (upd f n u))))) m (some (.inr (11, (fs.set 0 (.int 0)).set 17 (.int (nI (n + 1))))))) ∨ (¬ ((u = 10 ∨ (32 ≤ u ∧ u ≤ 126)) ∧ n < 600) ∧ v = some (.int 0) ∧ h1 = va_up h m (some (.inr (11, fs.set 0 (.int 0))))))) := by
  refine CT.of (by decide +kernel) rfl rfl (Nat.le_of_ble_eq_true rfl) ?_
  refine v_aload_n dX13_unit_0 rfl 0 rfl ?_
  refine v_iconst (v := 0) dX13_unit_1 (by decide) ?_
  refine v_putf 0 (fs' := _) (ci := 11) (C := RX13) (T := TX13) (N := 71) (ty := .int) rfl iwX13_unit_X13 tyX13 tyX13_ok nmX13 (Nat.le_of_ble_eq_true rfl) (by decide +kernel) rfl rfl dX13_unit_2 rfl rfl (by repeat (first | (with_reducible refine sv_us.trans ?_; exact rfl) | with_reducible assumption | with_reducible refine (sv_un (by omega)).trans ?_)) (by first | omega | (simp only [List.length_set]; omega)) rfl ?_
  refine v_iload_n dX13_unit_5 rfl 1 rfl ?_
  refine v_callS (M' := mX13_isCharacter) (n := 1) (As := [_]) ggX13_unit_X13_isCharacter (by decide +kernel) (by decide +kernel) (by decide +kernel) rfl (by decide +kernel) ⟨(Nat.le_of_ble_eq_true rfl), (Nat.le_of_ble_eq_true rfl)⟩ dX13_unit_6 rfl ⟨(Nat.le_of_ble_eq_true rfl), (Nat.le_of_ble_eq_true rfl)⟩ (Nat.le_of_ble_eq_true rfl) rfl (m_isCharacter G _ _ u) (fun v h1 z1 hq => ?_)
  obtain ⟨rfl, rfl, rfl⟩ := hq
  refine v_if_eq (tgt := 22) dX13_unit_9 (by decide) (fun c_9 => ?_) (fun c_9 => ?_)
  · refine v_iconst (v := 0) dX13_unit_22 (by decide) ?_
    exact v_iret rfl dX13_unit_23 (Nat.le_of_ble_eq_true rfl) (Nat.le_of_ble_eq_true rfl) rfl ⟨rfl, Or.inr ⟨fun q => absurd q.1 (sv_ift c_9), rfl, rfl⟩⟩
  · refine v_aload_n dX13_unit_12 rfl 0 rfl ?_
    refine v_getf 17 (ci := 11) (C := RX13) (T := TX13) (N := 71) rfl iwX13_unit_X13 (Nat.le_of_ble_eq_true rfl) (by decide +kernel) dX13_unit_13 (by repeat (first | (with_reducible refine sv_us.trans ?_; exact rfl) | with_reducible assumption | with_reducible refine (sv_un (by omega)).trans ?_)) (by repeat (first | with_reducible assumption | (with_reducible refine (sv_ls (by first | omega | (simp only [List.length_set]; omega))).trans ?_; exact rfl) | with_reducible refine (List.getElem?_set_ne (by decide)).trans ?_)) ?_
    refine v_sipush (v := 600) dX13_unit_16 (by decide) ?_
    refine v_icmp_ne (tgt := 24) dX13_unit_19 (by decide) (fun c_19 => ?_) (fun c_19 => ?_)
    · refine v_aload_n dX13_unit_24 rfl 0 rfl ?_
      refine v_getf 16 (ci := 11) (C := RX13) (T := TX13) (N := 71) rfl iwX13_unit_X13 (Nat.le_of_ble_eq_true rfl) (by decide +kernel) dX13_unit_25 (by repeat (first | (with_reducible refine sv_us.trans ?_; exact rfl) | with_reducible assumption | with_reducible refine (sv_un (by omega)).trans ?_)) (by repeat (first | with_reducible assumption | (with_reducible refine (sv_ls (by first | omega | (simp only [List.length_set]; omega))).trans ?_; exact rfl) | with_reducible refine (List.getElem?_set_ne (by decide)).trans ?_)) ?_
      refine v_aload_n dX13_unit_28 rfl 0 rfl ?_
      refine v_getf 17 (ci := 11) (C := RX13) (T := TX13) (N := 71) rfl iwX13_unit_X13 (Nat.le_of_ble_eq_true rfl) (by decide +kernel) dX13_unit_29 (by repeat (first | (with_reducible refine sv_us.trans ?_; exact rfl) | with_reducible assumption | with_reducible refine (sv_un (by omega)).trans ?_)) (by repeat (first | with_reducible assumption | (with_reducible refine (sv_ls (by first | omega | (simp only [List.length_set]; omega))).trans ?_; exact rfl) | with_reducible refine (List.getElem?_set_ne (by decide)).trans ?_)) ?_
      refine v_iload_n dX13_unit_32 rfl 1 rfl ?_
      refine v_iast dX13_unit_33 (by repeat (first | (with_reducible refine sv_us.trans ?_; exact rfl) | with_reducible assumption | with_reducible refine (sv_un (by omega)).trans ?_)) (vp_in_nI (sv_l6 hn c_19) (by omega)) ?_
      refine v_aload_n dX13_unit_34 rfl 0 rfl ?_
      refine v_dup dX13_unit_35 rfl ?_
      refine v_getf 17 (ci := 11) (C := RX13) (T := TX13) (N := 71) rfl iwX13_unit_X13 (Nat.le_of_ble_eq_true rfl) (by decide +kernel) dX13_unit_36 (by repeat (first | (with_reducible refine sv_us.trans ?_; exact rfl) | with_reducible assumption | with_reducible refine (sv_un (by omega)).trans ?_)) (by repeat (first | with_reducible assumption | (with_reducible refine (sv_ls (by first | omega | (simp only [List.length_set]; omega))).trans ?_; exact rfl) | with_reducible refine (List.getElem?_set_ne (by decide)).trans ?_)) ?_
      refine v_iconst (v := 1) dX13_unit_39 (by decide) ?_
      refine v_iadd dX13_unit_40 ?_
      refine v_putf 17 (fs' := _) (ci := 11) (C := RX13) (T := TX13) (N := 71) (ty := .int) rfl iwX13_unit_X13 tyX13 tyX13_ok nmX13 (Nat.le_of_ble_eq_true rfl) (by decide +kernel) rfl rfl dX13_unit_41 rfl rfl (by repeat (first | (with_reducible refine sv_us.trans ?_; exact rfl) | with_reducible assumption | with_reducible refine (sv_un (by omega)).trans ?_)) (by first | omega | (simp only [List.length_set]; omega)) rfl ?_
      refine v_iconst (v := 1) dX13_unit_44 (by decide) ?_
      exact v_iret rfl dX13_unit_45 (Nat.le_of_ble_eq_true rfl) (Nat.le_of_ble_eq_true rfl) rfl ⟨rfl, Or.inl ⟨sv_ifn c_9, sv_l6 hn c_19, rfl, by rw [nI_clamp (by omega), nI_1, sv_uc (fun q => hne q.symm), sv_uu]; exact sv_uc hne⟩⟩
    · refine v_iconst (v := 0) dX13_unit_22 (by decide) ?_
      exact v_iret rfl dX13_unit_23 (Nat.le_of_ble_eq_true rfl) (Nat.le_of_ble_eq_true rfl) rfl ⟨rfl, Or.inr ⟨fun q => absurd q.2 (by have e9 := (nI_eq (a := n) (b := 600) (by omega) (by omega)).mp c_19; omega), rfl, rfl⟩⟩

