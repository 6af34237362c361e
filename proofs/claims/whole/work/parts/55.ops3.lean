theorem iwX10_value_X10 : ∀ w ∈ wsX100, w ∈ wsX10_value := by decide +kernel
theorem dX10_value_0 : decode cX10_value 0 = .ok (.aload_n 0, 1) := by decide +kernel
theorem dX10_value_1 : decode cX10_value 1 = .ok (.getfield 9, 3) := by decide +kernel
theorem dX10_value_4 : decode cX10_value 4 = .ok (.aload_n 0, 1) := by decide +kernel
theorem dX10_value_5 : decode cX10_value 5 = .ok (.getfield 13, 3) := by decide +kernel
theorem dX10_value_8 : decode cX10_value 8 = .ok (.iload_n 1, 1) := by decide +kernel
theorem dX10_value_9 : decode cX10_value 9 = .ok (.iaload, 1) := by decide +kernel
theorem dX10_value_10 : decode cX10_value 10 = .ok (.bipush 12, 2) := by decide +kernel
theorem dX10_value_12 : decode cX10_value 12 = .ok (.imul, 1) := by decide +kernel
theorem dX10_value_13 : decode cX10_value 13 = .ok (.iload_n 2, 1) := by decide +kernel
theorem dX10_value_14 : decode cX10_value 14 = .ok (.iadd, 1) := by decide +kernel
theorem dX10_value_15 : decode cX10_value 15 = .ok (.laload, 1) := by decide +kernel
theorem dX10_value_16 : decode cX10_value 16 = .ok (.lreturn, 1) := by decide +kernel


set_option maxRecDepth 20000 in
theorem ggX12_violation_X10_value : GoodIn wsX12_violation wsX10_value := goodIn_r _ [13, 14, 15, 29, 30, 31, 32, 33, 34, 35] (by decide +kernel) (by decide +kernel)
set_option maxRecDepth 20000 in
theorem gX12_violation_X10_value : GoodIn wsX12_violation (wsV RX12 222 RX10 yX10_value wsX10_value) := goodIn_app (goodIn_of _ (by decide +kernel)) ggX12_violation_X10_value
set_option maxRecDepth 20000 in
theorem ggX12_cellOf_X10_value : GoodIn wsX12_cellOf wsX10_value := goodIn_r _ [13, 14, 15, 29, 30, 31, 32, 33, 34, 35] (by decide +kernel) (by decide +kernel)
set_option maxRecDepth 20000 in
theorem gX12_cellOf_X10_value : GoodIn wsX12_cellOf (wsV RX12 222 RX10 yX10_value wsX10_value) := goodIn_app (goodIn_of _ (by decide +kernel)) ggX12_cellOf_X10_value
set_option maxRecDepth 20000 in
theorem ggX12_changed_X10_value : GoodIn wsX12_changed wsX10_value := goodIn_r _ [12, 13, 14, 28, 29, 30, 31, 32, 33, 34] (by decide +kernel) (by decide +kernel)
set_option maxRecDepth 20000 in
theorem gX12_changed_X10_value : GoodIn wsX12_changed (wsV RX12 222 RX10 yX10_value wsX10_value) := goodIn_app (goodIn_of _ (by decide +kernel)) ggX12_changed_X10_value
abbrev mX10_value : sv_M := (cX10_value, 3, yX10_value, wsX10_value, (some .long), { frames := 0, cells := 0, slots := 0, locals := 0 }, [])
theorem sv_nm2 (a b : Nat) : nI a * nI b = nI (a * b) := (Int32.ofNat_mul a b).symm
theorem sv_12 (w j : Nat) : nI w * 12 + nI j = nI (12 * w + j) := by rw [show (12 : Int32) = nI 12 from rfl, sv_nm2, nI_add, Nat.mul_comm]
theorem sv_12b (k j : Nat) : (18024 : Int32) + 12 * nI k + nI j = nI (18024 + (12 * k + j)) := by rw [show (12 : Int32) = nI 12 from rfl, show (18024 : Int32) = nI 18024 from rfl, sv_nm2, nI_add, nI_add, Nat.add_assoc]
theorem sv_12c (k : Nat) : (18024 : Int32) + 12 * nI k = nI (18024 + 12 * k) := by rw [show (12 : Int32) = nI 12 from rfl, show (18024 : Int32) = nI 18024 from rfl, sv_nm2, nI_add]
set_option maxHeartbeats 4000000 in
set_option maxRecDepth 100000 in
theorem c_Told_value (G : sv_G) (h : sv_h) (z t k j w : Nat) (ro od st : Nat) (us sz ov hm : Int32) (rf : Nat → Int64) (of : Nat → Int32) (ht : h t = some (.inr (8, [.ref ro, .int us, .ref od, .ref st, .int sz, .int ov, .int hm]))) (hro : h ro = some (.inl (G.2.2.1 1, 18000, .inr (.inl rf)))) (hod : h od = some (.inl (G.2.2.1 0, 1500, .inl of))) (hk : k < 1500) (hj : j < 12) (hw : w < 1500) (hkw : of k = nI w) : CT G mX10_value [.ref t, .int (nI k), .int (nI j)] h z (fun v h1 z1 => v = some (.long (rf (12 * w + j))) ∧ h1 = h ∧ z1 = z) := by
  refine CT.of (by decide +kernel) rfl rfl (Nat.le_of_ble_eq_true rfl) ?_
  refine v_aload_n dX10_value_0 rfl 0 rfl ?_
  refine v_getf 0 (ci := 8) (C := RX10) (T := TX10) (N := 7) rfl iwX10_value_X10 (Nat.le_of_ble_eq_true rfl) (by decide +kernel) dX10_value_1 (by repeat (first | (with_reducible refine sv_us.trans ?_; exact rfl) | with_reducible assumption | with_reducible refine (sv_un (by omega)).trans ?_)) rfl ?_
  refine v_aload_n dX10_value_4 rfl 0 rfl ?_
  refine v_getf 2 (ci := 8) (C := RX10) (T := TX10) (N := 7) rfl iwX10_value_X10 (Nat.le_of_ble_eq_true rfl) (by decide +kernel) dX10_value_5 (by repeat (first | (with_reducible refine sv_us.trans ?_; exact rfl) | with_reducible assumption | with_reducible refine (sv_un (by omega)).trans ?_)) rfl ?_
  refine v_iload_n dX10_value_8 rfl 1 rfl ?_
  refine v_ialdS (v := nI w) dX10_value_9 (by repeat (first | (with_reducible refine sv_us.trans ?_; exact rfl) | with_reducible assumption | with_reducible refine (sv_un (by omega)).trans ?_)) (vp_in_nI hk (by omega)) (by rw [nI_clamp (by omega)]; exact hkw) ?_
  refine v_bipush (v := 12) dX10_value_10 (by decide) ?_
  refine v_imul dX10_value_12 ?_
  refine v_iload_n dX10_value_13 rfl 2 rfl ?_
  refine v_iadd dX10_value_14 ?_
  refine v_laldS (v := rf (12 * w + j)) dX10_value_15 (by repeat (first | (with_reducible refine sv_us.trans ?_; exact rfl) | with_reducible assumption | with_reducible refine (sv_un (by omega)).trans ?_)) (by rw [sv_12]; exact vp_in_nI (by omega) (by omega)) (by rw [sv_12, nI_clamp (by omega)]) ?_
  exact v_lret rfl dX10_value_16 (Nat.le_of_ble_eq_true rfl) (Nat.le_of_ble_eq_true rfl) ⟨rfl, rfl, rfl⟩

set_option maxHeartbeats 4000000 in
set_option maxRecDepth 100000 in
theorem c_violation (G : sv_G) (hl0 : G.1.stackTraces = false) (h : sv_h) (z b k j w : Nat) (ly tp rd ck wv ru la fo fl lo : Nat) (rc lr lf : Int32) (hb : h b = some (.inr (10, [.ref ly, .ref tp, .ref rd, .ref ck, .ref wv, .ref ru, .int rc, .int lr, .int lf, .ref la, .ref fo, .ref fl, .ref lo]))) (ro od st : Nat) (us sz ov hm : Int32) (rf : Nat → Int64) (of : Nat → Int32) (hla : h la = some (.inr (8, [.ref ro, .int us, .ref od, .ref st, .int sz, .int ov, .int hm]))) (hro : h ro = some (.inl (G.2.2.1 1, 18000, .inr (.inl rf)))) (hod : h od = some (.inl (G.2.2.1 0, 1500, .inl of))) (hg : 0 ≤ nI k ∧ nI k < sz) (hk : k < 1500) (hj : j ≤ 6) (hw : w < 1500) (hkw : of k = nI w) : CX G mX12_violation [.ref b, .int (nI k), .int (nI j)] h z (fun v h1 z1 => v = some (.long (rf (12 * w + j))) ∧ h1 = h ∧ z1 = z) (fun _ _ _ => False) := by
  refine CX.of (by decide +kernel) rfl rfl (Nat.le_of_ble_eq_true rfl) ?_
  refine v_aload_n dX12_violation_0 rfl 0 rfl ?_
  refine v_getf 9 (ci := 10) (C := RX12) (T := TX12) (N := 13) rfl iwX12_violation_X12 (Nat.le_of_ble_eq_true rfl) (by decide +kernel) dX12_violation_1 (by repeat (first | (with_reducible refine sv_us.trans ?_; exact rfl) | with_reducible assumption | with_reducible refine (sv_un (by omega)).trans ?_)) rfl ?_
  refine v_iload_n dX12_violation_4 rfl 1 rfl ?_
  refine v_callV (M' := mX10_has) (n := 1) (As := [_]) (ci := 8) (r := (RX10, TX10, 7)) gX12_violation_X10_has rfl (by decide +kernel) ⟨(Nat.le_of_ble_eq_true rfl), (Nat.le_of_ble_eq_true rfl)⟩ rfl rfl dX12_violation_5 rfl ⟨(Nat.le_of_ble_eq_true rfl), (Nat.le_of_ble_eq_true rfl)⟩ (Nat.le_of_ble_eq_true rfl) (by repeat (first | (with_reducible refine sv_us.trans ?_; exact rfl) | with_reducible assumption | with_reducible refine (sv_un (by omega)).trans ?_)) rfl (c_Told_has G _ _ _ _ _ _ _ _ _ _ _ hla) (fun v h1 z1 hq => ?_)
  rw [if_pos hg] at hq
  obtain ⟨rfl, rfl, rfl⟩ := hq
  refine v_if_eq (tgt := 21) dX12_violation_8 (by decide) (fun c_8 => ?_) (fun c_8 => ?_)
  · exact absurd c_8 (by decide)
  · refine v_iload_n dX12_violation_11 rfl 2 rfl ?_
    refine v_if_lt (tgt := 21) dX12_violation_12 (by decide) (fun c_12 => ?_) (fun c_12 => ?_)
    · exact absurd c_12 (nI_pos (by omega))
    · refine v_iload_n dX12_violation_15 rfl 2 rfl ?_
      refine v_bipush (v := 6) dX12_violation_16 (by decide) ?_
      refine v_icmp_le (tgt := 31) dX12_violation_18 (by decide) (fun c_18 => ?_) (fun c_18 => ?_)
      · refine v_aload_n dX12_violation_31 rfl 0 rfl ?_
        refine v_getf 9 (ci := 10) (C := RX12) (T := TX12) (N := 13) rfl iwX12_violation_X12 (Nat.le_of_ble_eq_true rfl) (by decide +kernel) dX12_violation_32 (by repeat (first | (with_reducible refine sv_us.trans ?_; exact rfl) | with_reducible assumption | with_reducible refine (sv_un (by omega)).trans ?_)) rfl ?_
        refine v_iload_n dX12_violation_35 rfl 1 rfl ?_
        refine v_iload_n dX12_violation_36 rfl 2 rfl ?_
        refine v_callV (M' := mX10_value) (n := 2) (As := [_, _]) (ci := 8) (r := (RX10, TX10, 7)) gX12_violation_X10_value rfl (by decide +kernel) ⟨(Nat.le_of_ble_eq_true rfl), (Nat.le_of_ble_eq_true rfl)⟩ rfl rfl dX12_violation_37 rfl ⟨(Nat.le_of_ble_eq_true rfl), (Nat.le_of_ble_eq_true rfl)⟩ (Nat.le_of_ble_eq_true rfl) (by repeat (first | (with_reducible refine sv_us.trans ?_; exact rfl) | with_reducible assumption | with_reducible refine (sv_un (by omega)).trans ?_)) rfl (c_Told_value G _ _ la k j w ro od st us sz ov hm rf of hla hro hod hk (by omega) hw hkw) (fun v h1 z1 hq => ?_)
        obtain ⟨rfl, rfl, rfl⟩ := hq
        exact v_xret (v_lret rfl dX12_violation_40 (Nat.le_of_ble_eq_true rfl) (Nat.le_of_ble_eq_true rfl) ⟨rfl, rfl, rfl⟩)
      · exact absurd (nI_le (b := 6) hj (by omega)) c_18

set_option maxHeartbeats 4000000 in
set_option maxRecDepth 100000 in
theorem c_violation_w (G : sv_G) (hl0 : G.1.stackTraces = false) (h : sv_h) (z b : Nat) (c q : Int32) (ly tp rd ck wv ru la fo fl lo : Nat) (rc lr lf : Int32) (hb : h b = some (.inr (10, [.ref ly, .ref tp, .ref rd, .ref ck, .ref wv, .ref ru, .int rc, .int lr, .int lf, .ref la, .ref fo, .ref fl, .ref lo]))) (ro od st : Nat) (us sz ov hm : Int32) (hla : h la = some (.inr (8, [.ref ro, .int us, .ref od, .ref st, .int sz, .int ov, .int hm]))) (hg : 0 ≤ c ∧ c < sz) (hq0 : ¬ (0 ≤ q ∧ q ≤ 6)) : CX G mX12_violation [.ref b, .int c, .int q] h z (fun _ _ _ => False) (fun E h1 z1 => E = "java/lang/IndexOutOfBoundsException" ∧ h1 = h) := by
  refine CX.of (by decide +kernel) rfl rfl (Nat.le_of_ble_eq_true rfl) ?_
  refine v_aload_n dX12_violation_0 rfl 0 rfl ?_
  refine v_getf 9 (ci := 10) (C := RX12) (T := TX12) (N := 13) rfl iwX12_violation_X12 (Nat.le_of_ble_eq_true rfl) (by decide +kernel) dX12_violation_1 (by repeat (first | (with_reducible refine sv_us.trans ?_; exact rfl) | with_reducible assumption | with_reducible refine (sv_un (by omega)).trans ?_)) rfl ?_
  refine v_iload_n dX12_violation_4 rfl 1 rfl ?_
  refine v_callV (M' := mX10_has) (n := 1) (As := [_]) (ci := 8) (r := (RX10, TX10, 7)) gX12_violation_X10_has rfl (by decide +kernel) ⟨(Nat.le_of_ble_eq_true rfl), (Nat.le_of_ble_eq_true rfl)⟩ rfl rfl dX12_violation_5 rfl ⟨(Nat.le_of_ble_eq_true rfl), (Nat.le_of_ble_eq_true rfl)⟩ (Nat.le_of_ble_eq_true rfl) (by repeat (first | (with_reducible refine sv_us.trans ?_; exact rfl) | with_reducible assumption | with_reducible refine (sv_un (by omega)).trans ?_)) rfl (c_Told_has G _ _ _ _ _ _ _ _ _ _ _ hla) (fun v h1 z1 hq => ?_)
  rw [if_pos hg] at hq
  obtain ⟨rfl, rfl, rfl⟩ := hq
  refine v_if_eq (tgt := 21) dX12_violation_8 (by decide) (fun c_8 => ?_) (fun c_8 => ?_)
  · exact absurd c_8 (by decide)
  · refine v_iload_n dX12_violation_11 rfl 2 rfl ?_
    refine v_if_lt (tgt := 21) dX12_violation_12 (by decide) (fun c_12 => ?_) (fun c_12 => ?_)
    · exact v_throw (ik := 121) (is := 220) (ic := 125) (cls := "java/lang/IndexOutOfBoundsException") (text := "no such violation or what") (names := ["java/lang/RuntimeException", "java/lang/Exception"]) hl0 rfl (by decide +kernel) (by decide +kernel) (by decide +kernel) (by decide +kernel) (by decide +kernel) (by decide +kernel) (by decide +kernel) sv_bwO (by decide +kernel) dX12_violation_21 dX12_violation_24 dX12_violation_25 dX12_violation_27 dX12_violation_30 rfl (Nat.le_of_ble_eq_true rfl) (Nat.le_of_ble_eq_true rfl) (Nat.le_of_ble_eq_true rfl) (Nat.le_of_ble_eq_true rfl) (fun z9 hz9 => ⟨rfl, rfl⟩)
    · refine v_iload_n dX12_violation_15 rfl 2 rfl ?_
      refine v_bipush (v := 6) dX12_violation_16 (by decide) ?_
      refine v_icmp_le (tgt := 31) dX12_violation_18 (by decide) (fun c_18 => ?_) (fun c_18 => ?_)
      · exact absurd ⟨(by simp only [Int32.lt_iff_toInt_lt, Int32.le_iff_toInt_le, sv_i0, sv_i1, sv_i2, sv_i3, sv_i4, sv_i5, sv_i6, sv_i7, sv_i8, sv_i9, sv_i10, sv_i16, sv_i17, sv_i20, sv_i32, sv_i40, sv_i64, sv_i100, sv_i126, sv_i255, sv_i600, sv_i1500, sv_i65536, sv_im1] at *; omega), c_18⟩ hq0
      · exact v_throw (ik := 121) (is := 220) (ic := 125) (cls := "java/lang/IndexOutOfBoundsException") (text := "no such violation or what") (names := ["java/lang/RuntimeException", "java/lang/Exception"]) hl0 rfl (by decide +kernel) (by decide +kernel) (by decide +kernel) (by decide +kernel) (by decide +kernel) (by decide +kernel) (by decide +kernel) sv_bwO (by decide +kernel) dX12_violation_21 dX12_violation_24 dX12_violation_25 dX12_violation_27 dX12_violation_30 rfl (Nat.le_of_ble_eq_true rfl) (Nat.le_of_ble_eq_true rfl) (Nat.le_of_ble_eq_true rfl) (Nat.le_of_ble_eq_true rfl) (fun z9 hz9 => ⟨rfl, rfl⟩)

set_option maxHeartbeats 4000000 in
set_option maxRecDepth 100000 in
theorem m_violation (G : sv_G) (h : sv_h) (z m : Nat) (fs : List Value) (hlen : fs.length = 71) (hm : h m = some (.inr (11, fs))) (k j : Nat) (n : Int32) (f_latest : fs[30]? = some (.int n)) (hg : 0 ≤ nI k ∧ nI k < n) (A : Nat) (f : Nat → Int64) (f_told : fs[27]? = some (.ref A)) (hA : h A = some (.inl (G.2.2.1 1, 36048, .inr (.inl f)))) (hne : m ≠ A) (hk : k < 1500) (hj : j ≤ 6) : CT G mX13_violation [.ref m, .int (nI k), .int (nI j)] h z (fun v h1 z1 => v = some (.long (f (18024 + (12 * k + j)))) ∧ h1 = va_up h m (some (.inr (11, fs.set 0 (.int 0)))) ∧ z1 = z) := by
  refine CT.of (by decide +kernel) rfl rfl (Nat.le_of_ble_eq_true rfl) ?_
  refine v_aload_n dX13_violation_0 rfl 0 rfl ?_
  refine v_iload_n dX13_violation_1 rfl 1 rfl ?_
  refine v_if_lt (tgt := 23) dX13_violation_2 (by decide) (fun c_2 => ?_) (fun c_2 => ?_)
  · exact absurd c_2 (nI_pos (by omega))
  · refine v_iload_n dX13_violation_5 rfl 1 rfl ?_
    refine v_aload_n dX13_violation_6 rfl 0 rfl ?_
    refine v_getf 30 (ci := 11) (C := RX13) (T := TX13) (N := 71) rfl iwX13_violation_X13 (Nat.le_of_ble_eq_true rfl) (by decide +kernel) dX13_violation_7 (by repeat (first | (with_reducible refine sv_us.trans ?_; exact rfl) | with_reducible assumption | with_reducible refine (sv_un (by omega)).trans ?_)) (by repeat (first | with_reducible assumption | (with_reducible refine (sv_ls (by first | omega | (simp only [List.length_set]; omega))).trans ?_; exact rfl) | with_reducible refine (List.getElem?_set_ne (by decide)).trans ?_)) ?_
    refine v_icmp_ge (tgt := 23) dX13_violation_10 (by decide) (fun c_10 => ?_) (fun c_10 => ?_)
    · exact absurd hg.2 (by simp only [Int32.lt_iff_toInt_lt, Int32.le_iff_toInt_le, sv_i0, sv_i1, sv_i2, sv_i3, sv_i4, sv_i5, sv_i6, sv_i7, sv_i8, sv_i9, sv_i10, sv_i16, sv_i17, sv_i20, sv_i32, sv_i40, sv_i64, sv_i100, sv_i126, sv_i255, sv_i600, sv_i1500, sv_i65536, sv_im1] at *; omega)
    · refine v_iload_n dX13_violation_13 rfl 2 rfl ?_
      refine v_if_lt (tgt := 23) dX13_violation_14 (by decide) (fun c_14 => ?_) (fun c_14 => ?_)
      · exact absurd c_14 (nI_pos (by omega))
      · refine v_iload_n dX13_violation_17 rfl 2 rfl ?_
        refine v_bipush (v := 6) dX13_violation_18 (by decide) ?_
        refine v_icmp_le (tgt := 27) dX13_violation_20 (by decide) (fun c_20 => ?_) (fun c_20 => ?_)
        · refine v_iconst (v := 0) dX13_violation_27 (by decide) ?_
          refine v_putf 0 (fs' := _) (ci := 11) (C := RX13) (T := TX13) (N := 71) (ty := .int) rfl iwX13_violation_X13 tyX13 tyX13_ok nmX13 (Nat.le_of_ble_eq_true rfl) (by decide +kernel) rfl rfl dX13_violation_28 rfl rfl (by repeat (first | (with_reducible refine sv_us.trans ?_; exact rfl) | with_reducible assumption | with_reducible refine (sv_un (by omega)).trans ?_)) (by first | omega | (simp only [List.length_set]; omega)) rfl ?_
          refine v_aload_n dX13_violation_31 rfl 0 rfl ?_
          refine v_getf 0 (ci := 11) (C := RX13) (T := TX13) (N := 71) rfl iwX13_violation_X13 (Nat.le_of_ble_eq_true rfl) (by decide +kernel) dX13_violation_32 (by repeat (first | (with_reducible refine sv_us.trans ?_; exact rfl) | with_reducible assumption | with_reducible refine (sv_un (by omega)).trans ?_)) (by repeat (first | with_reducible assumption | (with_reducible refine (sv_ls (by first | omega | (simp only [List.length_set]; omega))).trans ?_; exact rfl) | with_reducible refine (List.getElem?_set_ne (by decide)).trans ?_)) ?_
          refine v_if_le (tgt := 42) dX13_violation_35 (by decide) (fun c_35 => ?_) (fun c_35 => ?_)
          · refine v_aload_n dX13_violation_42 rfl 0 rfl ?_
            refine v_getf 27 (ci := 11) (C := RX13) (T := TX13) (N := 71) rfl iwX13_violation_X13 (Nat.le_of_ble_eq_true rfl) (by decide +kernel) dX13_violation_43 (by repeat (first | (with_reducible refine sv_us.trans ?_; exact rfl) | with_reducible assumption | with_reducible refine (sv_un (by omega)).trans ?_)) (by repeat (first | with_reducible assumption | (with_reducible refine (sv_ls (by first | omega | (simp only [List.length_set]; omega))).trans ?_; exact rfl) | with_reducible refine (List.getElem?_set_ne (by decide)).trans ?_)) ?_
            refine v_sipush (v := 18024) dX13_violation_46 (by decide) ?_
            refine v_bipush (v := 12) dX13_violation_49 (by decide) ?_
            refine v_iload_n dX13_violation_51 rfl 1 rfl ?_
            refine v_imul dX13_violation_52 ?_
            refine v_iadd dX13_violation_53 ?_
            refine v_iload_n dX13_violation_54 rfl 2 rfl ?_
            refine v_iadd dX13_violation_55 ?_
            refine v_laldS (v := f (18024 + (12 * k + j))) dX13_violation_56 (by repeat (first | (with_reducible refine sv_us.trans ?_; exact rfl) | with_reducible assumption | with_reducible refine (sv_un (by omega)).trans ?_)) (by rw [sv_12b]; exact vp_in_nI (by omega) (by omega)) (by rw [sv_12b, nI_clamp (by omega)]) ?_
            exact v_lret rfl dX13_violation_57 (Nat.le_of_ble_eq_true rfl) (Nat.le_of_ble_eq_true rfl) ⟨rfl, rfl, rfl⟩
          · exact absurd (by decide) c_35
        · exact absurd (nI_le (b := 6) hj (by omega)) c_20

set_option maxHeartbeats 4000000 in
set_option maxRecDepth 100000 in
theorem m_violation_w (G : sv_G) (h : sv_h) (z m : Nat) (fs : List Value) (hlen : fs.length = 71) (hm : h m = some (.inr (11, fs))) (c q : Int32) (n : Int32) (f_latest : fs[30]? = some (.int n)) (hg : 0 ≤ c ∧ c < n) (hq0 : ¬ (0 ≤ q ∧ q ≤ 6)) : CT G mX13_violation [.ref m, .int c, .int q] h z (fun v h1 z1 => v = some (.long 0) ∧ h1 = va_up h m (some (.inr (11, fs.set 0 (.int 1)))) ∧ z1 = z) := by
  refine CT.of (by decide +kernel) rfl rfl (Nat.le_of_ble_eq_true rfl) ?_
  refine v_aload_n dX13_violation_0 rfl 0 rfl ?_
  refine v_iload_n dX13_violation_1 rfl 1 rfl ?_
  refine v_if_lt (tgt := 23) dX13_violation_2 (by decide) (fun c_2 => ?_) (fun c_2 => ?_)
  · refine v_iconst (v := 1) dX13_violation_23 (by decide) ?_
    refine v_goto (tgt := 28) dX13_violation_24 (by decide) ?_
    refine v_putf 0 (fs' := _) (ci := 11) (C := RX13) (T := TX13) (N := 71) (ty := .int) rfl iwX13_violation_X13 tyX13 tyX13_ok nmX13 (Nat.le_of_ble_eq_true rfl) (by decide +kernel) rfl rfl dX13_violation_28 rfl rfl (by repeat (first | (with_reducible refine sv_us.trans ?_; exact rfl) | with_reducible assumption | with_reducible refine (sv_un (by omega)).trans ?_)) (by first | omega | (simp only [List.length_set]; omega)) rfl ?_
    refine v_aload_n dX13_violation_31 rfl 0 rfl ?_
    refine v_getf 0 (ci := 11) (C := RX13) (T := TX13) (N := 71) rfl iwX13_violation_X13 (Nat.le_of_ble_eq_true rfl) (by decide +kernel) dX13_violation_32 (by repeat (first | (with_reducible refine sv_us.trans ?_; exact rfl) | with_reducible assumption | with_reducible refine (sv_un (by omega)).trans ?_)) (by repeat (first | with_reducible assumption | (with_reducible refine (sv_ls (by first | omega | (simp only [List.length_set]; omega))).trans ?_; exact rfl) | with_reducible refine (List.getElem?_set_ne (by decide)).trans ?_)) ?_
    refine v_if_le (tgt := 42) dX13_violation_35 (by decide) (fun c_35 => ?_) (fun c_35 => ?_)
    · exact absurd c_35 (by decide)
    · refine v_lconst (v := 0) dX13_violation_38 (by decide) ?_
      refine v_goto (tgt := 57) dX13_violation_39 (by decide) ?_
      exact v_lret rfl dX13_violation_57 (Nat.le_of_ble_eq_true rfl) (Nat.le_of_ble_eq_true rfl) ⟨rfl, rfl, rfl⟩
  · refine v_iload_n dX13_violation_5 rfl 1 rfl ?_
    refine v_aload_n dX13_violation_6 rfl 0 rfl ?_
    refine v_getf 30 (ci := 11) (C := RX13) (T := TX13) (N := 71) rfl iwX13_violation_X13 (Nat.le_of_ble_eq_true rfl) (by decide +kernel) dX13_violation_7 (by repeat (first | (with_reducible refine sv_us.trans ?_; exact rfl) | with_reducible assumption | with_reducible refine (sv_un (by omega)).trans ?_)) (by repeat (first | with_reducible assumption | (with_reducible refine (sv_ls (by first | omega | (simp only [List.length_set]; omega))).trans ?_; exact rfl) | with_reducible refine (List.getElem?_set_ne (by decide)).trans ?_)) ?_
    refine v_icmp_ge (tgt := 23) dX13_violation_10 (by decide) (fun c_10 => ?_) (fun c_10 => ?_)
    · refine v_iconst (v := 1) dX13_violation_23 (by decide) ?_
      refine v_goto (tgt := 28) dX13_violation_24 (by decide) ?_
      refine v_putf 0 (fs' := _) (ci := 11) (C := RX13) (T := TX13) (N := 71) (ty := .int) rfl iwX13_violation_X13 tyX13 tyX13_ok nmX13 (Nat.le_of_ble_eq_true rfl) (by decide +kernel) rfl rfl dX13_violation_28 rfl rfl (by repeat (first | (with_reducible refine sv_us.trans ?_; exact rfl) | with_reducible assumption | with_reducible refine (sv_un (by omega)).trans ?_)) (by first | omega | (simp only [List.length_set]; omega)) rfl ?_
      refine v_aload_n dX13_violation_31 rfl 0 rfl ?_
      refine v_getf 0 (ci := 11) (C := RX13) (T := TX13) (N := 71) rfl iwX13_violation_X13 (Nat.le_of_ble_eq_true rfl) (by decide +kernel) dX13_violation_32 (by repeat (first | (with_reducible refine sv_us.trans ?_; exact rfl) | with_reducible assumption | with_reducible refine (sv_un (by omega)).trans ?_)) (by repeat (first | with_reducible assumption | (with_reducible refine (sv_ls (by first | omega | (simp only [List.length_set]; omega))).trans ?_; exact rfl) | with_reducible refine (List.getElem?_set_ne (by decide)).trans ?_)) ?_
      refine v_if_le (tgt := 42) dX13_violation_35 (by decide) (fun c_35 => ?_) (fun c_35 => ?_)
      · exact absurd c_35 (by decide)
      · refine v_lconst (v := 0) dX13_violation_38 (by decide) ?_
        refine v_goto (tgt := 57) dX13_violation_39 (by decide) ?_
        exact v_lret rfl dX13_violation_57 (Nat.le_of_ble_eq_true rfl) (Nat.le_of_ble_eq_true rfl) ⟨rfl, rfl, rfl⟩
    · refine v_iload_n dX13_violation_13 rfl 2 rfl ?_
      refine v_if_lt (tgt := 23) dX13_violation_14 (by decide) (fun c_14 => ?_) (fun c_14 => ?_)
      · refine v_iconst (v := 1) dX13_violation_23 (by decide) ?_
        refine v_goto (tgt := 28) dX13_violation_24 (by decide) ?_
        refine v_putf 0 (fs' := _) (ci := 11) (C := RX13) (T := TX13) (N := 71) (ty := .int) rfl iwX13_violation_X13 tyX13 tyX13_ok nmX13 (Nat.le_of_ble_eq_true rfl) (by decide +kernel) rfl rfl dX13_violation_28 rfl rfl (by repeat (first | (with_reducible refine sv_us.trans ?_; exact rfl) | with_reducible assumption | with_reducible refine (sv_un (by omega)).trans ?_)) (by first | omega | (simp only [List.length_set]; omega)) rfl ?_
        refine v_aload_n dX13_violation_31 rfl 0 rfl ?_
        refine v_getf 0 (ci := 11) (C := RX13) (T := TX13) (N := 71) rfl iwX13_violation_X13 (Nat.le_of_ble_eq_true rfl) (by decide +kernel) dX13_violation_32 (by repeat (first | (with_reducible refine sv_us.trans ?_; exact rfl) | with_reducible assumption | with_reducible refine (sv_un (by omega)).trans ?_)) (by repeat (first | with_reducible assumption | (with_reducible refine (sv_ls (by first | omega | (simp only [List.length_set]; omega))).trans ?_; exact rfl) | with_reducible refine (List.getElem?_set_ne (by decide)).trans ?_)) ?_
        refine v_if_le (tgt := 42) dX13_violation_35 (by decide) (fun c_35 => ?_) (fun c_35 => ?_)
        · exact absurd c_35 (by decide)
        · refine v_lconst (v := 0) dX13_violation_38 (by decide) ?_
          refine v_goto (tgt := 57) dX13_violation_39 (by decide) ?_
          exact v_lret rfl dX13_violation_57 (Nat.le_of_ble_eq_true rfl) (Nat.le_of_ble_eq_true rfl) ⟨rfl, rfl, rfl⟩
      · refine v_iload_n dX13_violation_17 rfl 2 rfl ?_
        refine v_bipush (v := 6) dX13_violation_18 (by decide) ?_
        refine v_icmp_le (tgt := 27) dX13_violation_20 (by decide) (fun c_20 => ?_) (fun c_20 => ?_)
        · exact absurd ⟨(by simp only [Int32.lt_iff_toInt_lt, Int32.le_iff_toInt_le, sv_i0, sv_i1, sv_i2, sv_i3, sv_i4, sv_i5, sv_i6, sv_i7, sv_i8, sv_i9, sv_i10, sv_i16, sv_i17, sv_i20, sv_i32, sv_i40, sv_i64, sv_i100, sv_i126, sv_i255, sv_i600, sv_i1500, sv_i65536, sv_im1] at *; omega), c_20⟩ hq0
        · refine v_iconst (v := 1) dX13_violation_23 (by decide) ?_
          refine v_goto (tgt := 28) dX13_violation_24 (by decide) ?_
          refine v_putf 0 (fs' := _) (ci := 11) (C := RX13) (T := TX13) (N := 71) (ty := .int) rfl iwX13_violation_X13 tyX13 tyX13_ok nmX13 (Nat.le_of_ble_eq_true rfl) (by decide +kernel) rfl rfl dX13_violation_28 rfl rfl (by repeat (first | (with_reducible refine sv_us.trans ?_; exact rfl) | with_reducible assumption | with_reducible refine (sv_un (by omega)).trans ?_)) (by first | omega | (simp only [List.length_set]; omega)) rfl ?_
          refine v_aload_n dX13_violation_31 rfl 0 rfl ?_
          refine v_getf 0 (ci := 11) (C := RX13) (T := TX13) (N := 71) rfl iwX13_violation_X13 (Nat.le_of_ble_eq_true rfl) (by decide +kernel) dX13_violation_32 (by repeat (first | (with_reducible refine sv_us.trans ?_; exact rfl) | with_reducible assumption | with_reducible refine (sv_un (by omega)).trans ?_)) (by repeat (first | with_reducible assumption | (with_reducible refine (sv_ls (by first | omega | (simp only [List.length_set]; omega))).trans ?_; exact rfl) | with_reducible refine (List.getElem?_set_ne (by decide)).trans ?_)) ?_
          refine v_if_le (tgt := 42) dX13_violation_35 (by decide) (fun c_35 => ?_) (fun c_35 => ?_)
          · exact absurd c_35 (by decide)
          · refine v_lconst (v := 0) dX13_violation_38 (by decide) ?_
            refine v_goto (tgt := 57) dX13_violation_39 (by decide) ?_
            exact v_lret rfl dX13_violation_57 (Nat.le_of_ble_eq_true rfl) (Nat.le_of_ble_eq_true rfl) ⟨rfl, rfl, rfl⟩

set_option maxHeartbeats 4000000 in
set_option maxRecDepth 100000 in
theorem c_cellOf (G : sv_G) (hl0 : G.1.stackTraces = false) (h : sv_h) (z b k w : Nat) (ly tp rd ck wv ru la fo fl lo : Nat) (rc lr lf : Int32) (hb : h b = some (.inr (10, [.ref ly, .ref tp, .ref rd, .ref ck, .ref wv, .ref ru, .int rc, .int lr, .int lf, .ref la, .ref fo, .ref fl, .ref lo]))) (ro od st : Nat) (us sz ov hm : Int32) (rf : Nat → Int64) (of : Nat → Int32) (hla : h la = some (.inr (8, [.ref ro, .int us, .ref od, .ref st, .int sz, .int ov, .int hm]))) (hro : h ro = some (.inl (G.2.2.1 1, 18000, .inr (.inl rf)))) (hod : h od = some (.inl (G.2.2.1 0, 1500, .inl of))) (hg : 0 ≤ nI k ∧ nI k < sz) (hk : k < 1500) (hw : w < 1500) (hkw : of k = nI w) : CX G mX12_cellOf [.ref b, .int (nI k)] h z (fun v h1 z1 => v = some (.int (rf (12 * w + 7)).toInt32) ∧ h1 = h ∧ z1 = z) (fun _ _ _ => False) := by
  refine CX.of (by decide +kernel) rfl rfl (Nat.le_of_ble_eq_true rfl) ?_
  refine v_aload_n dX12_cellOf_0 rfl 0 rfl ?_
  refine v_getf 9 (ci := 10) (C := RX12) (T := TX12) (N := 13) rfl iwX12_cellOf_X12 (Nat.le_of_ble_eq_true rfl) (by decide +kernel) dX12_cellOf_1 (by repeat (first | (with_reducible refine sv_us.trans ?_; exact rfl) | with_reducible assumption | with_reducible refine (sv_un (by omega)).trans ?_)) rfl ?_
  refine v_iload_n dX12_cellOf_4 rfl 1 rfl ?_
  refine v_callV (M' := mX10_has) (n := 1) (As := [_]) (ci := 8) (r := (RX10, TX10, 7)) gX12_cellOf_X10_has rfl (by decide +kernel) ⟨(Nat.le_of_ble_eq_true rfl), (Nat.le_of_ble_eq_true rfl)⟩ rfl rfl dX12_cellOf_5 rfl ⟨(Nat.le_of_ble_eq_true rfl), (Nat.le_of_ble_eq_true rfl)⟩ (Nat.le_of_ble_eq_true rfl) (by repeat (first | (with_reducible refine sv_us.trans ?_; exact rfl) | with_reducible assumption | with_reducible refine (sv_un (by omega)).trans ?_)) rfl (c_Told_has G _ _ _ _ _ _ _ _ _ _ _ hla) (fun v h1 z1 hq => ?_)
  rw [if_pos hg] at hq
  obtain ⟨rfl, rfl, rfl⟩ := hq
  refine v_if_ne (tgt := 21) dX12_cellOf_8 (by decide) (fun c_8 => ?_) (fun c_8 => ?_)
  · refine v_aload_n dX12_cellOf_21 rfl 0 rfl ?_
    refine v_getf 9 (ci := 10) (C := RX12) (T := TX12) (N := 13) rfl iwX12_cellOf_X12 (Nat.le_of_ble_eq_true rfl) (by decide +kernel) dX12_cellOf_22 (by repeat (first | (with_reducible refine sv_us.trans ?_; exact rfl) | with_reducible assumption | with_reducible refine (sv_un (by omega)).trans ?_)) rfl ?_
    refine v_iload_n dX12_cellOf_25 rfl 1 rfl ?_
    refine v_bipush (v := 7) dX12_cellOf_26 (by decide) ?_
    refine v_callV (M' := mX10_value) (n := 2) (As := [_, _]) (ci := 8) (r := (RX10, TX10, 7)) gX12_cellOf_X10_value rfl (by decide +kernel) ⟨(Nat.le_of_ble_eq_true rfl), (Nat.le_of_ble_eq_true rfl)⟩ rfl rfl dX12_cellOf_28 rfl ⟨(Nat.le_of_ble_eq_true rfl), (Nat.le_of_ble_eq_true rfl)⟩ (Nat.le_of_ble_eq_true rfl) (by repeat (first | (with_reducible refine sv_us.trans ?_; exact rfl) | with_reducible assumption | with_reducible refine (sv_un (by omega)).trans ?_)) rfl (c_Told_value G _ _ la k 7 w ro od st us sz ov hm rf of hla hro hod hk (by omega) hw hkw) (fun v h1 z1 hq => ?_)
    obtain ⟨rfl, rfl, rfl⟩ := hq
    refine v_l2i dX12_cellOf_31 rfl ?_
    exact v_xret (v_iret rfl dX12_cellOf_32 (Nat.le_of_ble_eq_true rfl) (Nat.le_of_ble_eq_true rfl) rfl ⟨rfl, rfl, rfl⟩)
  · exact absurd c_8 (by decide)

set_option maxHeartbeats 4000000 in
set_option maxRecDepth 100000 in
theorem m_cellOf (G : sv_G) (h : sv_h) (z m : Nat) (fs : List Value) (hlen : fs.length = 71) (hm : h m = some (.inr (11, fs))) (k : Nat) (n : Int32) (f_latest : fs[30]? = some (.int n)) (hg : 0 ≤ nI k ∧ nI k < n) (A : Nat) (f : Nat → Int64) (f_told : fs[27]? = some (.ref A)) (hA : h A = some (.inl (G.2.2.1 1, 36048, .inr (.inl f)))) (hne : m ≠ A) (hk : k < 1500) : CT G mX13_cellOf [.ref m, .int (nI k)] h z (fun v h1 z1 => v = some (.int (f (18024 + (12 * k + 7))).toInt32) ∧ h1 = va_up h m (some (.inr (11, fs.set 0 (.int 0)))) ∧ z1 = z) := by
  refine CT.of (by decide +kernel) rfl rfl (Nat.le_of_ble_eq_true rfl) ?_
  refine v_aload_n dX13_cellOf_0 rfl 0 rfl ?_
  refine v_iload_n dX13_cellOf_1 rfl 1 rfl ?_
  refine v_if_lt (tgt := 13) dX13_cellOf_2 (by decide) (fun c_2 => ?_) (fun c_2 => ?_)
  · exact absurd c_2 (nI_pos (by omega))
  · refine v_iload_n dX13_cellOf_5 rfl 1 rfl ?_
    refine v_aload_n dX13_cellOf_6 rfl 0 rfl ?_
    refine v_getf 30 (ci := 11) (C := RX13) (T := TX13) (N := 71) rfl iwX13_cellOf_X13 (Nat.le_of_ble_eq_true rfl) (by decide +kernel) dX13_cellOf_7 (by repeat (first | (with_reducible refine sv_us.trans ?_; exact rfl) | with_reducible assumption | with_reducible refine (sv_un (by omega)).trans ?_)) (by repeat (first | with_reducible assumption | (with_reducible refine (sv_ls (by first | omega | (simp only [List.length_set]; omega))).trans ?_; exact rfl) | with_reducible refine (List.getElem?_set_ne (by decide)).trans ?_)) ?_
    refine v_icmp_lt (tgt := 17) dX13_cellOf_10 (by decide) (fun c_10 => ?_) (fun c_10 => ?_)
    · refine v_iconst (v := 0) dX13_cellOf_17 (by decide) ?_
      refine v_putf 0 (fs' := _) (ci := 11) (C := RX13) (T := TX13) (N := 71) (ty := .int) rfl iwX13_cellOf_X13 tyX13 tyX13_ok nmX13 (Nat.le_of_ble_eq_true rfl) (by decide +kernel) rfl rfl dX13_cellOf_18 rfl rfl (by repeat (first | (with_reducible refine sv_us.trans ?_; exact rfl) | with_reducible assumption | with_reducible refine (sv_un (by omega)).trans ?_)) (by first | omega | (simp only [List.length_set]; omega)) rfl ?_
      refine v_aload_n dX13_cellOf_21 rfl 0 rfl ?_
      refine v_getf 0 (ci := 11) (C := RX13) (T := TX13) (N := 71) rfl iwX13_cellOf_X13 (Nat.le_of_ble_eq_true rfl) (by decide +kernel) dX13_cellOf_22 (by repeat (first | (with_reducible refine sv_us.trans ?_; exact rfl) | with_reducible assumption | with_reducible refine (sv_un (by omega)).trans ?_)) (by repeat (first | with_reducible assumption | (with_reducible refine (sv_ls (by first | omega | (simp only [List.length_set]; omega))).trans ?_; exact rfl) | with_reducible refine (List.getElem?_set_ne (by decide)).trans ?_)) ?_
      refine v_if_le (tgt := 32) dX13_cellOf_25 (by decide) (fun c_25 => ?_) (fun c_25 => ?_)
      · refine v_aload_n dX13_cellOf_32 rfl 0 rfl ?_
        refine v_getf 27 (ci := 11) (C := RX13) (T := TX13) (N := 71) rfl iwX13_cellOf_X13 (Nat.le_of_ble_eq_true rfl) (by decide +kernel) dX13_cellOf_33 (by repeat (first | (with_reducible refine sv_us.trans ?_; exact rfl) | with_reducible assumption | with_reducible refine (sv_un (by omega)).trans ?_)) (by repeat (first | with_reducible assumption | (with_reducible refine (sv_ls (by first | omega | (simp only [List.length_set]; omega))).trans ?_; exact rfl) | with_reducible refine (List.getElem?_set_ne (by decide)).trans ?_)) ?_
        refine v_sipush (v := 18024) dX13_cellOf_36 (by decide) ?_
        refine v_bipush (v := 12) dX13_cellOf_39 (by decide) ?_
        refine v_iload_n dX13_cellOf_41 rfl 1 rfl ?_
        refine v_imul dX13_cellOf_42 ?_
        refine v_iadd dX13_cellOf_43 ?_
        refine v_bipush (v := 7) dX13_cellOf_44 (by decide) ?_
        refine v_iadd dX13_cellOf_46 ?_
        refine v_laldS (v := f (18024 + (12 * k + 7))) dX13_cellOf_47 (by repeat (first | (with_reducible refine sv_us.trans ?_; exact rfl) | with_reducible assumption | with_reducible refine (sv_un (by omega)).trans ?_)) (by rw [show (7 : Int32) = nI 7 from rfl, sv_12b]; exact vp_in_nI (by omega) (by omega)) (by rw [show (7 : Int32) = nI 7 from rfl, sv_12b, nI_clamp (by omega)]) ?_
        refine v_l2i dX13_cellOf_48 rfl ?_
        exact v_iret rfl dX13_cellOf_49 (Nat.le_of_ble_eq_true rfl) (Nat.le_of_ble_eq_true rfl) rfl ⟨rfl, rfl, rfl⟩
      · exact absurd (by decide) c_25
    · exact absurd hg.2 c_10

theorem g_violation (G : sv_G) (hl0 : G.1.stackTraces = false) (b : Nat) (c q : Int32) : OpJ G mX12_violation mX13_violation b (b + 220) (b + 261) ["java/lang/IndexOutOfBoundsException"] [.int c, .int q] (ab_Inv G b) (ab_Inv G b) := by
  refine OpJ.of fun h z hi => ?_
  obtain ⟨k, nc, np, pl, sz, t, u, pa, ma, tn, tp, nr, r, ru, rd, nl, lr, la, fo, fl, nw, wr, lX, lq, lf, mf, fs, ⟨gok, gLay, gAd, gML⟩, ⟨gTp, gMTp⟩, ⟨gRu, gRd, gRl, gRr, gMR⟩, ⟨gLa, gFo, gFl, gLo, gMLa⟩, ⟨gWv, gMWv⟩, ⟨gDk, glq, gmf, glf⟩, ⟨gm, gfs⟩, ⟨gCk, gSc, go⟩⟩ := id hi
  obtain ⟨gru, i1, i2, i3, i4, i5, i6, i7, i8, i9, gla, gfo, gfl⟩ := id gDk.2
  have gz := gAd.1
  obtain ⟨f0, ho⟩ := id go
  obtain ⟨hnl, xx, ro, od, st, us, ov, hm0, w, ⟨y0, y1, y2, y3, y4⟩, y5⟩ := id gLa
  obtain ⟨fm, y6, y7⟩ := id gMLa
  by_cases hg : 0 ≤ c ∧ c < nI nl
  · by_cases hq : 0 ≤ q ∧ q ≤ 6
    · obtain ⟨kk, hk, rfl⟩ := sv_idx (by omega) hg
      obtain ⟨j, hj, rfl⟩ := nI_of2 (M := 6) (n := 6) (by decide) (x := q) (by simp only [Int32.lt_iff_toInt_lt, Int32.le_iff_toInt_le, sv_i0, sv_i1, sv_i2, sv_i3, sv_i4, sv_i5, sv_i6, sv_i7, sv_i8, sv_i9, sv_i10, sv_i16, sv_i17, sv_i20, sv_i32, sv_i40, sv_i64, sv_i100, sv_i126, sv_i255, sv_i600, sv_i1500, sv_i65536, sv_im1] at *; omega) hq.2
      obtain ⟨w1, w2, w3⟩ := y5 kk hk
      refine at_purJ (w := lr (12 * kk + j)) hi ((c_violation G hl0 h z b kk j (w kk) _ _ _ _ _ _ _ _ _ _ _ _ _ gDk.1 _ _ _ _ _ _ _ ro od y1 y2 y3 hg (by omega) hj w1 w2).mono (fun v h1 z1 _ r => ?_) (fun _ _ _ _ r => r)) gm gfs.1 (fun h2 e3 => (m_violation G h2 z _ _ gfs.1 ((e3 _ (by omega)).trans gm) kk j _ gfs.f_latest hg (b + 241) fm gfs.f_told ((e3 _ (by omega)).trans y6) (by omega) (by omega) hj).mono (fun v h1 z1 _ r => ?_))
      · rw [w3 j (by omega)] at r; exact r
      · rw [y7 kk hk j (by omega)] at r; exact r
    · exact at_refJ 0 hi rfl (c_violation_w G hl0 h z b c q _ _ _ _ _ _ _ _ _ _ _ _ _ gDk.1 _ _ _ _ _ _ _ y1 hg hq) gm gfs.1 (fun z1 => m_violation_w G _ _ _ _ gfs.1 gm c q _ gfs.f_latest hg hq)
  · exact at_refJ 0 hi rfl (c_violation_o G hl0 h z b _ _ _ _ _ _ _ _ _ _ _ _ _ gDk.1 c q _ _ _ _ _ _ _ y1 hg) gm gfs.1 (fun z1 => m_violation_o G _ _ _ _ gfs.1 gm c q _ gfs.f_latest hg)
theorem g_cellOf (G : sv_G) (hl0 : G.1.stackTraces = false) (b : Nat) (c : Int32) : OpI G mX12_cellOf mX13_cellOf b (b + 220) (b + 261) ["java/lang/IndexOutOfBoundsException"] [.int c] (ab_Inv G b) (ab_Inv G b) := by
  refine OpI.of fun h z hi => ?_
  obtain ⟨k, nc, np, pl, sz, t, u, pa, ma, tn, tp, nr, r, ru, rd, nl, lr, la, fo, fl, nw, wr, lX, lq, lf, mf, fs, ⟨gok, gLay, gAd, gML⟩, ⟨gTp, gMTp⟩, ⟨gRu, gRd, gRl, gRr, gMR⟩, ⟨gLa, gFo, gFl, gLo, gMLa⟩, ⟨gWv, gMWv⟩, ⟨gDk, glq, gmf, glf⟩, ⟨gm, gfs⟩, ⟨gCk, gSc, go⟩⟩ := id hi
  obtain ⟨gru, i1, i2, i3, i4, i5, i6, i7, i8, i9, gla, gfo, gfl⟩ := id gDk.2
  have gz := gAd.1
  obtain ⟨f0, ho⟩ := id go
  obtain ⟨hnl, xx, ro, od, st, us, ov, hm0, w, ⟨y0, y1, y2, y3, y4⟩, y5⟩ := id gLa
  obtain ⟨fm, y6, y7⟩ := id gMLa
  by_cases hg : 0 ≤ c ∧ c < nI nl
  · obtain ⟨kk, hk, rfl⟩ := sv_idx (by omega) hg
    obtain ⟨w1, w2, w3⟩ := y5 kk hk
    refine at_purI (w := (lr (12 * kk + 7)).toInt32) hi ((c_cellOf G hl0 h z b kk (w kk) _ _ _ _ _ _ _ _ _ _ _ _ _ gDk.1 _ _ _ _ _ _ _ ro od y1 y2 y3 hg (by omega) w1 w2).mono (fun v h1 z1 _ r => ?_) (fun _ _ _ _ r => r)) gm gfs.1 (fun h2 e3 => (m_cellOf G h2 z _ _ gfs.1 ((e3 _ (by omega)).trans gm) kk _ gfs.f_latest hg (b + 241) fm gfs.f_told ((e3 _ (by omega)).trans y6) (by omega) (by omega)).mono (fun v h1 z1 _ r => ?_))
    · rw [w3 7 (by omega)] at r; exact r
    · rw [y7 kk hk 7 (by omega)] at r; exact r
  · exact at_refI 0 hi rfl (c_cellOf_o G hl0 h z b _ _ _ _ _ _ _ _ _ _ _ _ _ gDk.1 c _ _ _ _ _ _ _ y1 hg) gm gfs.1 (fun z1 => m_cellOf_o G _ _ _ _ gfs.1 gm c _ gfs.f_latest hg)
