abbrev mX11_add : sv_M := (cX11_add, 4, yX11_add, wsX11_add, none, { frames := 2, cells := 0, slots := 0, locals := 60 }, [])
theorem sv_cp {rf wr d f1 : Nat → Int64} {n : Nat} (hwr : ∀ k, k < n → ∀ j, j < 8 → rf (8 * k + j) = wr (8 * k + j)) (hd : ∀ j, j < 8 → f1 j = d j) : ∀ k1, k1 < n + 1 → ∀ j, j < 8 → va_cpy f1 rf 0 (8 * n) 8 (8 * k1 + j) = (if k1 < n then wr (8 * k1 + j) else d j) := by
  intro k1 h1 j hj
  unfold va_cpy
  by_cases q : k1 < n
  · rw [if_neg (by omega), if_pos q]; exact hwr k1 q j hj
  · rw [if_pos (by omega), if_neg q]
    have : 8 * k1 + j - 8 * n = j := by omega
    rw [this, Nat.zero_add]; exact hd j hj
set_option maxHeartbeats 4000000 in
set_option maxRecDepth 100000 in
theorem c_wadd (G : sv_G) (h : sv_h) (z b n : Nat) (la nl k : Nat) (rl : Int32) (lr : Nat → Int64) (wr f : Nat → Int64) (hw : h (b + 180) = some (.inr (9, [.ref (b + 181), .ref (b + 182), .int (nI n)]))) (hla : ab_late G h la nl lr) (hk : k < nl) (hl1 : b + 204 ≤ la) (hl2 : la < b + 216) (hf : ab_J G h (b + 182) 8 f) (rf : Nat → Int64) (hrf : ab_J G h (b + 181) 320 rf) (hwr : ∀ k, k < n → ∀ j, j < 8 → rf (8 * k + j) = wr (8 * k + j)) (hn : n < 40) : CT G mX11_add [.ref (b + 180), .int rl, .ref la, .int (nI k)] h z (fun v h1 z1 => v = none ∧ z1 = z ∧ (∃ f1, ab_J G h1 (b + 182) 8 f1) ∧ h1 (b + 180) = some (.inr (9, [.ref (b + 181), .ref (b + 182), .int (nI (n + 1))])) ∧ (∃ f2, ab_J G h1 (b + 181) 320 f2 ∧ ∀ k1, k1 < n + 1 → ∀ j, j < 8 → f2 (8 * k1 + j) = (if k1 < n then wr (8 * k1 + j) else ab_ds rl lr k j)) ∧ ∀ a, a ≠ b + 180 → a ≠ b + 181 → a ≠ b + 182 → h1 a = h a) := by
  refine CT.of (by decide +kernel) rfl rfl (Nat.le_of_ble_eq_true rfl) ?_
  refine v_aload_n dX11_add_0 rfl 0 rfl ?_
  refine v_getf 2 (ci := 9) (C := RX11) (T := TX11) (N := 3) rfl iwX11_add_X11 (Nat.le_of_ble_eq_true rfl) (by decide +kernel) dX11_add_1 (by repeat (first | (with_reducible refine sv_us.trans ?_; exact rfl) | with_reducible assumption | with_reducible refine (sv_un (by omega)).trans ?_)) rfl ?_
  refine v_bipush (v := 40) dX11_add_4 (by decide) ?_
  refine v_icmp_ge (tgt := 47) dX11_add_6 (by decide) (fun c_6 => ?_) (fun c_6 => ?_)
  · exact absurd c_6 (nI_ge (b := 40) hn (by omega))
  · refine v_aload_n dX11_add_9 rfl 0 rfl ?_
    refine v_iload_n dX11_add_10 rfl 1 rfl ?_
    refine v_aload_n dX11_add_11 rfl 2 rfl ?_
    refine v_iload_n dX11_add_12 rfl 3 rfl ?_
    refine v_callV (M' := mX11_describe) (n := 3) (As := [_, _, _]) (ci := 9) (r := (RX11, TX11, 3)) gX11_add_X11_describe rfl (by decide +kernel) ⟨(Nat.le_of_ble_eq_true rfl), (Nat.le_of_ble_eq_true rfl)⟩ rfl rfl dX11_add_13 rfl ⟨(Nat.le_of_ble_eq_true rfl), (Nat.le_of_ble_eq_true rfl)⟩ (Nat.le_of_ble_eq_true rfl) (by repeat (first | (with_reducible refine sv_us.trans ?_; exact rfl) | with_reducible assumption | with_reducible refine (sv_un (by omega)).trans ?_)) rfl (c_describe G h z b n la nl k rl lr f hw hla hk hl1 hl2 hf) (fun v h1 z1 hq => ?_)
    obtain ⟨rfl, rfl, ⟨f1, hf1, hds⟩, hfr⟩ := hq
    have hw1 := (hfr (b + 180) (by omega)).trans hw
    have hr1 := (hfr (b + 181) (by omega)).trans hrf
    refine v_aload_n dX11_add_16 rfl 0 rfl ?_
    refine v_getf 1 (ci := 9) (C := RX11) (T := TX11) (N := 3) rfl iwX11_add_X11 (Nat.le_of_ble_eq_true rfl) (by decide +kernel) dX11_add_17 (by repeat (first | (with_reducible refine sv_us.trans ?_; exact rfl) | with_reducible assumption | with_reducible refine (sv_un (by omega)).trans ?_)) rfl ?_
    refine v_iconst (v := 0) dX11_add_20 (by decide) ?_
    refine v_aload_n dX11_add_21 rfl 0 rfl ?_
    refine v_getf 0 (ci := 9) (C := RX11) (T := TX11) (N := 3) rfl iwX11_add_X11 (Nat.le_of_ble_eq_true rfl) (by decide +kernel) dX11_add_22 (by repeat (first | (with_reducible refine sv_us.trans ?_; exact rfl) | with_reducible assumption | with_reducible refine (sv_un (by omega)).trans ?_)) rfl ?_
    refine v_aload_n dX11_add_25 rfl 0 rfl ?_
    refine v_getf 2 (ci := 9) (C := RX11) (T := TX11) (N := 3) rfl iwX11_add_X11 (Nat.le_of_ble_eq_true rfl) (by decide +kernel) dX11_add_26 (by repeat (first | (with_reducible refine sv_us.trans ?_; exact rfl) | with_reducible assumption | with_reducible refine (sv_un (by omega)).trans ?_)) rfl ?_
    refine v_bipush (v := 8) dX11_add_29 (by decide) ?_
    refine v_imul dX11_add_31 ?_
    refine v_bipush (v := 8) dX11_add_32 (by decide) ?_
    refine v_copyJ (by decide +kernel) (by decide +kernel) (by decide +kernel) (by decide +kernel) dX11_add_34 (Nat.le_of_ble_eq_true rfl) (by decide +kernel) (by repeat (first | (with_reducible refine sv_us.trans ?_; exact rfl) | with_reducible assumption | with_reducible refine (sv_un (by omega)).trans ?_)) (by repeat (first | (with_reducible refine sv_us.trans ?_; exact rfl) | with_reducible assumption | with_reducible refine (sv_un (by omega)).trans ?_)) (by decide) (by rw [show (8 : Int32) = nI 8 from rfl, sv_nm2]; exact nI_pos (by omega)) (by decide) (by decide) (by rw [show (8 : Int32) = nI 8 from rfl, sv_nm2, nI_clamp (by omega)]; show n * 8 + 8 ≤ 320; omega) ?_
    refine v_aload_n dX11_add_37 rfl 0 rfl ?_
    refine v_dup dX11_add_38 rfl ?_
    refine v_getf 2 (ci := 9) (C := RX11) (T := TX11) (N := 3) rfl iwX11_add_X11 (Nat.le_of_ble_eq_true rfl) (by decide +kernel) dX11_add_39 (by repeat (first | (with_reducible refine sv_us.trans ?_; exact rfl) | with_reducible assumption | with_reducible refine (sv_un (by omega)).trans ?_)) rfl ?_
    refine v_iconst (v := 1) dX11_add_42 (by decide) ?_
    refine v_iadd dX11_add_43 ?_
    refine v_putf 2 (fs' := [_, _, _]) (ci := 9) (C := RX11) (T := TX11) (N := 3) (ty := .int) rfl iwX11_add_X11 tyX11 tyX11_ok nmX11 (Nat.le_of_ble_eq_true rfl) (by decide +kernel) rfl rfl dX11_add_44 rfl rfl (by repeat (first | (with_reducible refine sv_us.trans ?_; exact rfl) | with_reducible assumption | with_reducible refine (sv_un (by omega)).trans ?_)) (Nat.le_of_ble_eq_true rfl) rfl ?_
    exact v_ret rfl dX11_add_47 (Nat.le_of_ble_eq_true rfl) (Nat.le_of_ble_eq_true rfl) ⟨rfl, rfl, ⟨f1, (by repeat (first | (with_reducible refine sv_us.trans ?_; exact rfl) | with_reducible assumption | with_reducible refine (sv_un (by first | omega | assumption)).trans ?_))⟩, by rw [← nI_1]; exact (by repeat (first | (with_reducible refine sv_us.trans ?_; exact rfl) | with_reducible assumption | with_reducible refine (sv_un (by first | omega | assumption)).trans ?_)), ⟨_, (sv_un (by omega)).trans sv_us, (by
        rw [show (nI n * 8).toNatClampNeg = 8 * n by rw [show (8 : Int32) = nI 8 from rfl, sv_nm2, nI_clamp (by omega), Nat.mul_comm], sv_c0, show (8 : Int32).toNatClampNeg = 8 by decide]
        exact sv_cp hwr hds)⟩, (fun a q1 q2 q3 => (sv_un q1).trans ((sv_un q2).trans (hfr a q3)))⟩

theorem sv_w40 {n : Nat} (hn : n ≤ 40) (h : nI n < (40 : Int32)) : n < 40 := (nI_ltI (b := 40) (by omega) (by omega)).mp h
set_option maxHeartbeats 4000000 in
set_option maxRecDepth 100000 in
theorem c_waive (G : sv_G) (hl0 : G.1.stackTraces = false) (h : sv_h) (z b n : Nat) (la nl k : Nat) (rl : Int32) (lr : Nat → Int64) (wr f : Nat → Int64) (hw : h (b + 180) = some (.inr (9, [.ref (b + 181), .ref (b + 182), .int (nI n)]))) (hla : ab_late G h la nl lr) (hk : k < nl) (hl1 : b + 204 ≤ la) (hl2 : la < b + 216) (hf : ab_J G h (b + 182) 8 f) (rf : Nat → Int64) (hrf : ab_J G h (b + 181) 320 rf) (hwr : ∀ k, k < n → ∀ j, j < 8 → rf (8 * k + j) = wr (8 * k + j)) (hn : n ≤ 40) (ly tp rd ck ru fo fl lo : Nat) (rc lf : Int32) (hb : h b = some (.inr (10, [.ref ly, .ref tp, .ref rd, .ref ck, .ref (b + 180), .ref ru, .int rc, .int rl, .int lf, .ref la, .ref fo, .ref fl, .ref lo]))) : CX G mX12_waive [.ref b, .int (nI k)] h z (fun v h1 z1 => z1 = z ∧ ((ab_cv wr (ab_ds rl lr k) n ∧ v = some (.int 0) ∧ (∃ f1, ab_J G h1 (b + 182) 8 f1) ∧ ∀ a, a ≠ b + 182 → h1 a = h a) ∨ (¬ ab_cv wr (ab_ds rl lr k) n ∧ n < 40 ∧ v = some (.int 1) ∧ (∃ f1, ab_J G h1 (b + 182) 8 f1) ∧ h1 (b + 180) = some (.inr (9, [.ref (b + 181), .ref (b + 182), .int (nI (n + 1))])) ∧ (∃ f2, ab_J G h1 (b + 181) 320 f2 ∧ ∀ k1, k1 < n + 1 → ∀ j, j < 8 → f2 (8 * k1 + j) = (if k1 < n then wr (8 * k1 + j) else ab_ds rl lr k j)) ∧ ∀ a, a ≠ b + 180 → a ≠ b + 181 → a ≠ b + 182 → h1 a = h a))) (fun E h1 z1 => E = "java/lang/IllegalStateException" ∧ ¬ ab_cv wr (ab_ds rl lr k) n ∧ ¬ n < 40 ∧ (∃ f1, ab_J G h1 (b + 182) 8 f1) ∧ ∀ a, a ≠ b + 182 → h1 a = h a) := by
  refine CX.of (by decide +kernel) rfl rfl (Nat.le_of_ble_eq_true rfl) ?_
  obtain ⟨hnl, xx, ro, od, st, us, ov, hm0, ww, ⟨y0, y1, y2, y3, y4⟩, y5⟩ := id hla
  have hg : 0 ≤ nI k ∧ nI k < nI nl := ⟨nI_le (a := 0) (by omega) (by omega), nI_lt hk (by omega)⟩
  refine v_aload_n dX12_waive_0 rfl 0 rfl ?_
  refine v_getf 9 (ci := 10) (C := RX12) (T := TX12) (N := 13) rfl iwX12_waive_X12 (Nat.le_of_ble_eq_true rfl) (by decide +kernel) dX12_waive_1 (by repeat (first | (with_reducible refine sv_us.trans ?_; exact rfl) | with_reducible assumption | with_reducible refine (sv_un (by omega)).trans ?_)) rfl ?_
  refine v_iload_n dX12_waive_4 rfl 1 rfl ?_
  refine v_callV (M' := mX10_has) (n := 1) (As := [_]) (ci := 8) (r := (RX10, TX10, 7)) gX12_waive_X10_has rfl (by decide +kernel) ⟨(Nat.le_of_ble_eq_true rfl), (Nat.le_of_ble_eq_true rfl)⟩ rfl rfl dX12_waive_5 rfl ⟨(Nat.le_of_ble_eq_true rfl), (Nat.le_of_ble_eq_true rfl)⟩ (Nat.le_of_ble_eq_true rfl) (by repeat (first | (with_reducible refine sv_us.trans ?_; exact rfl) | with_reducible assumption | with_reducible refine (sv_un (by omega)).trans ?_)) rfl (c_Told_has G _ _ _ _ _ _ _ _ _ _ _ y1) (fun v h1 z1 hq => ?_)
  rw [if_pos hg] at hq
  obtain ⟨rfl, rfl, rfl⟩ := hq
  refine v_if_ne (tgt := 21) dX12_waive_8 (by decide) (fun c_8 => ?_) (fun c_8 => ?_)
  · refine v_aload_n dX12_waive_21 rfl 0 rfl ?_
    refine v_getf 4 (ci := 10) (C := RX12) (T := TX12) (N := 13) rfl iwX12_waive_X12 (Nat.le_of_ble_eq_true rfl) (by decide +kernel) dX12_waive_22 (by repeat (first | (with_reducible refine sv_us.trans ?_; exact rfl) | with_reducible assumption | with_reducible refine (sv_un (by omega)).trans ?_)) rfl ?_
    refine v_aload_n dX12_waive_25 rfl 0 rfl ?_
    refine v_getf 7 (ci := 10) (C := RX12) (T := TX12) (N := 13) rfl iwX12_waive_X12 (Nat.le_of_ble_eq_true rfl) (by decide +kernel) dX12_waive_26 (by repeat (first | (with_reducible refine sv_us.trans ?_; exact rfl) | with_reducible assumption | with_reducible refine (sv_un (by omega)).trans ?_)) rfl ?_
    refine v_aload_n dX12_waive_29 rfl 0 rfl ?_
    refine v_getf 9 (ci := 10) (C := RX12) (T := TX12) (N := 13) rfl iwX12_waive_X12 (Nat.le_of_ble_eq_true rfl) (by decide +kernel) dX12_waive_30 (by repeat (first | (with_reducible refine sv_us.trans ?_; exact rfl) | with_reducible assumption | with_reducible refine (sv_un (by omega)).trans ?_)) rfl ?_
    refine v_iload_n dX12_waive_33 rfl 1 rfl ?_
    refine v_callV (M' := mX11_covers) (n := 3) (As := [_, _, _]) (ci := 9) (r := (RX11, TX11, 3)) gX12_waive_X11_covers rfl (by decide +kernel) ⟨(Nat.le_of_ble_eq_true rfl), (Nat.le_of_ble_eq_true rfl)⟩ rfl rfl dX12_waive_34 rfl ⟨(Nat.le_of_ble_eq_true rfl), (Nat.le_of_ble_eq_true rfl)⟩ (Nat.le_of_ble_eq_true rfl) (by repeat (first | (with_reducible refine sv_us.trans ?_; exact rfl) | with_reducible assumption | with_reducible refine (sv_un (by omega)).trans ?_)) rfl (c_covers G _ _ b n la nl k rl lr wr f hw hla hk hl1 hl2 hf rf hrf hwr hn) (fun v h1 z1 hq => ?_)
    obtain ⟨rfl, ⟨w, rfl, hw9⟩, ⟨f1, hf1⟩, hfr⟩ := hq
    have hw1 := (hfr (b + 180) (by omega)).trans hw
    have hr1 := (hfr (b + 181) (by omega)).trans hrf
    have hb1 := (hfr b (by omega)).trans hb
    have hla1 : ab_late G _ la nl lr := hla.kept (fun a q1 q2 => hfr a (by omega))
    refine v_if_eq (tgt := 42) dX12_waive_37 (by decide) (fun c_37 => ?_) (fun c_37 => ?_)
    · refine v_aload_n dX12_waive_42 rfl 0 rfl ?_
      refine v_getf 4 (ci := 10) (C := RX12) (T := TX12) (N := 13) rfl iwX12_waive_X12 (Nat.le_of_ble_eq_true rfl) (by decide +kernel) dX12_waive_43 (by repeat (first | (with_reducible refine sv_us.trans ?_; exact rfl) | with_reducible assumption | with_reducible refine (sv_un (by omega)).trans ?_)) rfl ?_
      refine v_getf 2 (ci := 9) (C := RX11) (T := TX11) (N := 3) rfl iwX12_waive_X11 (Nat.le_of_ble_eq_true rfl) (by decide +kernel) dX12_waive_46 (by repeat (first | (with_reducible refine sv_us.trans ?_; exact rfl) | with_reducible assumption | with_reducible refine (sv_un (by omega)).trans ?_)) rfl ?_
      refine v_bipush (v := 40) dX12_waive_49 (by decide) ?_
      refine v_icmp_lt (tgt := 64) dX12_waive_51 (by decide) (fun c_51 => ?_) (fun c_51 => ?_)
      · refine v_aload_n dX12_waive_64 rfl 0 rfl ?_
        refine v_getf 4 (ci := 10) (C := RX12) (T := TX12) (N := 13) rfl iwX12_waive_X12 (Nat.le_of_ble_eq_true rfl) (by decide +kernel) dX12_waive_65 (by repeat (first | (with_reducible refine sv_us.trans ?_; exact rfl) | with_reducible assumption | with_reducible refine (sv_un (by omega)).trans ?_)) rfl ?_
        refine v_aload_n dX12_waive_68 rfl 0 rfl ?_
        refine v_getf 7 (ci := 10) (C := RX12) (T := TX12) (N := 13) rfl iwX12_waive_X12 (Nat.le_of_ble_eq_true rfl) (by decide +kernel) dX12_waive_69 (by repeat (first | (with_reducible refine sv_us.trans ?_; exact rfl) | with_reducible assumption | with_reducible refine (sv_un (by omega)).trans ?_)) rfl ?_
        refine v_aload_n dX12_waive_72 rfl 0 rfl ?_
        refine v_getf 9 (ci := 10) (C := RX12) (T := TX12) (N := 13) rfl iwX12_waive_X12 (Nat.le_of_ble_eq_true rfl) (by decide +kernel) dX12_waive_73 (by repeat (first | (with_reducible refine sv_us.trans ?_; exact rfl) | with_reducible assumption | with_reducible refine (sv_un (by omega)).trans ?_)) rfl ?_
        refine v_iload_n dX12_waive_76 rfl 1 rfl ?_
        refine v_callV (M' := mX11_add) (n := 3) (As := [_, _, _]) (ci := 9) (r := (RX11, TX11, 3)) gX12_waive_X11_add rfl (by decide +kernel) ⟨(Nat.le_of_ble_eq_true rfl), (Nat.le_of_ble_eq_true rfl)⟩ rfl rfl dX12_waive_77 rfl ⟨(Nat.le_of_ble_eq_true rfl), (Nat.le_of_ble_eq_true rfl)⟩ (Nat.le_of_ble_eq_true rfl) (by repeat (first | (with_reducible refine sv_us.trans ?_; exact rfl) | with_reducible assumption | with_reducible refine (sv_un (by omega)).trans ?_)) rfl (c_wadd G _ _ b n la nl k rl lr wr f1 hw1 hla1 hk hl1 hl2 hf1 rf hr1 hwr (sv_w40 hn c_51)) (fun v h1 z1 hq => ?_)
        obtain ⟨rfl, rfl, k1, k2, k3, k4⟩ := hq
        refine v_iconst (v := 1) dX12_waive_80 (by decide) ?_
        exact v_xret (v_iret rfl dX12_waive_81 (Nat.le_of_ble_eq_true rfl) (Nat.le_of_ble_eq_true rfl) rfl ⟨rfl, Or.inr ⟨(hw9.resolve_left (fun q => by rw [q.1] at c_37; exact absurd c_37 (by decide))).2, sv_w40 hn c_51, rfl, k1, k2, k3, fun a q1 q2 q3 => (k4 a q1 q2 q3).trans (hfr a q3)⟩⟩)
      · exact v_throw (ik := 108) (is := 233) (ic := 112) (cls := "java/lang/IllegalStateException") (text := "no more waived violations") (names := ["java/lang/RuntimeException", "java/lang/Exception"]) hl0 rfl (by decide +kernel) (by decide +kernel) (by decide +kernel) (by decide +kernel) (by decide +kernel) (by decide +kernel) (by decide +kernel) sv_bwI (by decide +kernel) dX12_waive_54 dX12_waive_57 dX12_waive_58 dX12_waive_60 dX12_waive_63 rfl (Nat.le_of_ble_eq_true rfl) (Nat.le_of_ble_eq_true rfl) (Nat.le_of_ble_eq_true rfl) (Nat.le_of_ble_eq_true rfl) (fun z9 hz9 => ⟨rfl, (hw9.resolve_left (fun q => by rw [q.1] at c_37; exact absurd c_37 (by decide))).2, fun q => absurd (nI_lt (b := 40) q (by omega)) c_51, ⟨f1, hf1⟩, hfr⟩)
    · refine v_iconst (v := 0) dX12_waive_40 (by decide) ?_
      exact v_xret (v_iret rfl dX12_waive_41 (Nat.le_of_ble_eq_true rfl) (Nat.le_of_ble_eq_true rfl) rfl ⟨rfl, Or.inl ⟨(hw9.resolve_right (fun q => c_37 q.1)).2, rfl, ⟨f1, hf1⟩, hfr⟩⟩)
  · exact absurd c_8 (by decide)

abbrev mX13_isWaived : sv_M := (cX13_isWaived, 5, yX13_isWaived, wsX13_isWaived, (some .boolean), { frames := 0, cells := 0, slots := 0, locals := 0 }, [])
/-- the first four, and so many more -/
def ab_p4 (wr ds : Nat → Int64) (k i : Nat) : Prop := (∀ j, j < 4 → wr (8 * k + j) = ds j) ∧ ∀ j, j < i → wr (8 * k + (4 + j)) = ds (4 + j)
theorem ab_p4_mt {wr ds : Nat → Int64} {k : Nat} : ab_p4 wr ds k 4 ↔ ab_mt wr ds k := by
  constructor
  · intro h j hj
    by_cases q : j < 4
    · exact h.1 j q
    · have := h.2 (j - 4) (by omega)
      rw [show 4 + (j - 4) = j by omega] at this
      exact this
  · intro h
    exact ⟨fun j hj => h j (by omega), fun j hj => h (4 + j) (by omega)⟩
theorem sv_8b (k j : Nat) : (8 : Int32) * nI k + nI j = nI (8 * k + j) := by rw [show (8 : Int32) = nI 8 from rfl, sv_nm2, nI_add]
theorem sv_8c (k : Nat) : (8 : Int32) * nI k = nI (8 * k) := by rw [show (8 : Int32) = nI 8 from rfl, sv_nm2]
set_option maxHeartbeats 4000000 in
set_option maxRecDepth 100000 in
theorem l_isWaived1 (G : sv_G) (Qr : Option Value → sv_h → Nat → Prop) (h : sv_h) (z b k : Nat) (A0 nw : Nat) (fs : List Value) (rl : Int32) (wr ds tf wf : Nat → Int64) (hlen : fs.length = 71) (hm : h (b + 220) = some (.inr (11, fs))) (f_waived : fs[33]? = some (.int (nI nw))) (f_waivedAt : fs[34]? = some (.ref (b + 242))) (f_rule : fs[58]? = some (.int rl)) (f_told : fs[27]? = some (.ref (b + 241))) (htf : ab_J G h (b + 241) 36048 tf) (hwf : ab_J G h (b + 242) 320 wf) (hA0 : A0 + 12 ≤ 36048) (hnw : nw ≤ 40) (hwr : ∀ k, k < nw → ∀ j, j < 8 → wf (8 * k + ab_wc j) = wr (8 * k + j)) (d0 : ds 0 = rl.toInt64) (d1 : ds 1 = tf (A0 + 7)) (d2 : ds 2 = tf (A0 + 4)) (d3 : ds 3 = tf (A0 + 5)) (d4 : ∀ j, j < 4 → ds (4 + j) = tf (A0 + (8 + j))) (hk : k < nw) (hk1 : ∀ w : Int32, ((w = 1 ∧ ab_mt wr ds k) ∨ (w = 0 ∧ ¬ ab_mt wr ds k)) → V G mX13_isWaived (sv_MQ G mX13_isWaived Qr) 167 [(3, .int (nI k)), (2, .int w), (0, .ref (b + 220)), (1, .int (nI A0))] [] h z 0 0) : ∀ (c i : Nat) (w : Int32), i + c = 4 → ((w = 1 ∧ ab_p4 wr ds k i) ∨ (w = 0 ∧ ¬ ab_mt wr ds k)) → V G mX13_isWaived (sv_MQ G mX13_isWaived Qr) 115 [(4, .int (nI i)), (2, .int w), (3, .int (nI k)), (0, .ref (b + 220)), (1, .int (nI A0))] [] h z 0 0 := by
  intro c
  induction c with
  | zero =>
    intro i w hic hw
    refine v_iload dX13_isWaived_115 0 rfl ?_
    refine v_iconst (v := 4) dX13_isWaived_117 (by decide) ?_
    refine v_icmp_ge (tgt := 167) dX13_isWaived_118 (by decide) (fun c_118 => ?_) (fun c_118 => ?_)
    · (obtain rfl : i = 4 := by omega)
      refine v_sub (L' := [(3, _), (2, _), (0, _), (1, _)]) [2, 1, 3, 4] rfl ?_
      exact hk1 w (hw.elim (fun q => Or.inl ⟨q.1, ab_p4_mt.mp q.2⟩) Or.inr)
    · exact absurd (show (4 : Int32) ≤ nI i from nI_le (a := 4) (by omega) (by omega)) c_118
  | succ c ih =>
    intro i w hic hw
    refine v_iload dX13_isWaived_115 0 rfl ?_
    refine v_iconst (v := 4) dX13_isWaived_117 (by decide) ?_
    refine v_icmp_ge (tgt := 167) dX13_isWaived_118 (by decide) (fun c_118 => ?_) (fun c_118 => ?_)
    · exact absurd c_118 (nI_ge (b := 4) (by omega) (by omega))
    · refine v_iload_n dX13_isWaived_121 rfl 1 rfl ?_
      refine v_if_eq (tgt := 159) dX13_isWaived_122 (by decide) (fun c_122 => ?_) (fun c_122 => ?_)
      · refine v_iconst (v := 0) dX13_isWaived_159 (by decide) ?_
        refine v_istore_n (L' := [(2, _), (4, _), (3, _), (0, _), (1, _)]) dX13_isWaived_160 rfl (Nat.le_of_ble_eq_true rfl) rfl ?_
        refine v_iinc (j := 1) (L' := [(4, _), (2, _), (3, _), (0, _), (1, _)]) (v := nI (i + 1)) dX13_isWaived_161 rfl (nI_1 _) (Nat.le_of_ble_eq_true rfl) rfl ?_
        refine v_goto (tgt := 115) dX13_isWaived_164 (by decide) ?_
        refine v_sub (L' := [(4, _), (2, _), (3, _), (0, _), (1, _)]) [0, 1, 2, 3, 4] rfl ?_
        refine ih (i + 1) _ (by omega) ?_
        first
        | exact Or.inr ⟨rfl, (hw.resolve_left (fun q => by rw [q.1] at c_122; exact absurd c_122 (by decide))).2⟩
        | exact Or.inr ⟨rfl, fun q => c_152 (q (4 + i) (by omega))⟩
        | (refine Or.inl ⟨rfl, (hw.resolve_right (fun q => c_122 q.1)).2.1, fun j hj => ?_⟩
           by_cases e : j = i
           · rw [e]; exact c_152
           · exact (hw.resolve_right (fun q => c_122 q.1)).2.2 j (by omega))
      · refine v_aload_n dX13_isWaived_125 rfl 3 rfl ?_
        refine v_getf 34 (ci := 11) (C := RX13) (T := TX13) (N := 71) rfl iwX13_isWaived_X13 (Nat.le_of_ble_eq_true rfl) (by decide +kernel) dX13_isWaived_126 (by repeat (first | (with_reducible refine sv_us.trans ?_; exact rfl) | with_reducible assumption | with_reducible refine (sv_un (by omega)).trans ?_)) (by repeat (first | with_reducible assumption | (with_reducible refine (sv_ls (by first | omega | (simp only [List.length_set]; omega))).trans ?_; exact rfl) | with_reducible refine (List.getElem?_set_ne (by decide)).trans ?_)) ?_
        refine v_bipush (v := 8) dX13_isWaived_129 (by decide) ?_
        refine v_iload_n dX13_isWaived_131 rfl 2 rfl ?_
        refine v_imul dX13_isWaived_132 ?_
        refine v_iconst (v := 2) dX13_isWaived_133 (by decide) ?_
        refine v_iadd dX13_isWaived_134 ?_
        refine v_iload dX13_isWaived_135 0 rfl ?_
        refine v_iadd dX13_isWaived_137 ?_
        refine v_laldS (v := wr (8 * k + (4 + i))) dX13_isWaived_138 (by repeat (first | (with_reducible refine sv_us.trans ?_; exact rfl) | with_reducible assumption | with_reducible refine (sv_un (by omega)).trans ?_)) (by rw [show (2 : Int32) = nI 2 from rfl, sv_8b, nI_add]; exact vp_in_nI (by omega) (by omega)) (by rw [show (2 : Int32) = nI 2 from rfl, sv_8b, nI_add, nI_clamp (by omega), ← hwr k hk (4 + i) (by omega)]; congr 1; unfold ab_wc; rw [if_neg (by omega), if_neg (by omega)]; omega) ?_
        refine v_aload_n dX13_isWaived_139 rfl 3 rfl ?_
        refine v_getf 27 (ci := 11) (C := RX13) (T := TX13) (N := 71) rfl iwX13_isWaived_X13 (Nat.le_of_ble_eq_true rfl) (by decide +kernel) dX13_isWaived_140 (by repeat (first | (with_reducible refine sv_us.trans ?_; exact rfl) | with_reducible assumption | with_reducible refine (sv_un (by omega)).trans ?_)) (by repeat (first | with_reducible assumption | (with_reducible refine (sv_ls (by first | omega | (simp only [List.length_set]; omega))).trans ?_; exact rfl) | with_reducible refine (List.getElem?_set_ne (by decide)).trans ?_)) ?_
        refine v_iload_n dX13_isWaived_143 rfl 4 rfl ?_
        refine v_bipush (v := 8) dX13_isWaived_144 (by decide) ?_
        refine v_iadd dX13_isWaived_146 ?_
        refine v_iload dX13_isWaived_147 0 rfl ?_
        refine v_iadd dX13_isWaived_149 ?_
        refine v_laldS (v := ds (4 + i)) dX13_isWaived_150 (by repeat (first | (with_reducible refine sv_us.trans ?_; exact rfl) | with_reducible assumption | with_reducible refine (sv_un (by omega)).trans ?_)) (by rw [show (8 : Int32) = nI 8 from rfl, nI_add, nI_add]; exact vp_in_nI (by omega) (by omega)) (by rw [show (8 : Int32) = nI 8 from rfl, nI_add, nI_add, nI_clamp (by omega), d4 i (by omega), Nat.add_assoc]) ?_
        refine v_lcmp_ne (tgt := 159) dX13_isWaived_151 dX13_isWaived_152 (by decide) (fun c_152 => ?_) (fun c_152 => ?_)
        · refine v_iconst (v := 0) dX13_isWaived_159 (by decide) ?_
          refine v_istore_n (L' := [(2, _), (4, _), (3, _), (0, _), (1, _)]) dX13_isWaived_160 rfl (Nat.le_of_ble_eq_true rfl) rfl ?_
          refine v_iinc (j := 1) (L' := [(4, _), (2, _), (3, _), (0, _), (1, _)]) (v := nI (i + 1)) dX13_isWaived_161 rfl (nI_1 _) (Nat.le_of_ble_eq_true rfl) rfl ?_
          refine v_goto (tgt := 115) dX13_isWaived_164 (by decide) ?_
          refine v_sub (L' := [(4, _), (2, _), (3, _), (0, _), (1, _)]) [0, 1, 2, 3, 4] rfl ?_
          refine ih (i + 1) _ (by omega) ?_
          first
          | exact Or.inr ⟨rfl, (hw.resolve_left (fun q => by rw [q.1] at c_122; exact absurd c_122 (by decide))).2⟩
          | exact Or.inr ⟨rfl, fun q => c_152 (q (4 + i) (by omega))⟩
          | (refine Or.inl ⟨rfl, (hw.resolve_right (fun q => c_122 q.1)).2.1, fun j hj => ?_⟩
             by_cases e : j = i
             · rw [e]; exact c_152
             · exact (hw.resolve_right (fun q => c_122 q.1)).2.2 j (by omega))
        · refine v_iconst (v := 1) dX13_isWaived_155 (by decide) ?_
          refine v_goto (tgt := 160) dX13_isWaived_156 (by decide) ?_
          refine v_istore_n (L' := [(2, _), (4, _), (3, _), (0, _), (1, _)]) dX13_isWaived_160 rfl (Nat.le_of_ble_eq_true rfl) rfl ?_
          refine v_iinc (j := 1) (L' := [(4, _), (2, _), (3, _), (0, _), (1, _)]) (v := nI (i + 1)) dX13_isWaived_161 rfl (nI_1 _) (Nat.le_of_ble_eq_true rfl) rfl ?_
          refine v_goto (tgt := 115) dX13_isWaived_164 (by decide) ?_
          refine v_sub (L' := [(4, _), (2, _), (3, _), (0, _), (1, _)]) [0, 1, 2, 3, 4] rfl ?_
          refine ih (i + 1) _ (by omega) ?_
          first
          | exact Or.inr ⟨rfl, (hw.resolve_left (fun q => by rw [q.1] at c_122; exact absurd c_122 (by decide))).2⟩
          | exact Or.inr ⟨rfl, fun q => c_152 (q (4 + i) (by omega))⟩
          | (refine Or.inl ⟨rfl, (hw.resolve_right (fun q => c_122 q.1)).2.1, fun j hj => ?_⟩
             by_cases e : j = i
             · rw [e]; exact c_152
             · exact (hw.resolve_right (fun q => c_122 q.1)).2.2 j (by omega))

set_option maxHeartbeats 4000000 in
set_option maxRecDepth 100000 in
theorem l_isWaived2 (G : sv_G) (h : sv_h) (z b : Nat) (A0 nw : Nat) (fs : List Value) (rl : Int32) (wr ds tf wf : Nat → Int64) (hlen : fs.length = 71) (hm : h (b + 220) = some (.inr (11, fs))) (f_waived : fs[33]? = some (.int (nI nw))) (f_waivedAt : fs[34]? = some (.ref (b + 242))) (f_rule : fs[58]? = some (.int rl)) (f_told : fs[27]? = some (.ref (b + 241))) (htf : ab_J G h (b + 241) 36048 tf) (hwf : ab_J G h (b + 242) 320 wf) (hA0 : A0 + 12 ≤ 36048) (hnw : nw ≤ 40) (hwr : ∀ k, k < nw → ∀ j, j < 8 → wf (8 * k + ab_wc j) = wr (8 * k + j)) (d0 : ds 0 = rl.toInt64) (d1 : ds 1 = tf (A0 + 7)) (d2 : ds 2 = tf (A0 + 4)) (d3 : ds 3 = tf (A0 + 5)) (d4 : ∀ j, j < 4 → ds (4 + j) = tf (A0 + (8 + j))) : ∀ (c k : Nat) (w : Int32), k + c = nw → ((w = 1 ∧ ab_cv wr ds nw) ∨ (w = 0 ∧ ∀ q, q < k → ¬ ab_mt wr ds q)) → V G mX13_isWaived (sv_MQ G mX13_isWaived (fun v h1 z1 => (∃ w : Int32, v = some (.int w) ∧ ((w = 1 ∧ ab_cv wr ds nw) ∨ (w = 0 ∧ ¬ ab_cv wr ds nw))) ∧ h1 = h ∧ z1 = z)) 4 [(3, .int (nI k)), (2, .int w), (0, .ref (b + 220)), (1, .int (nI A0))] [] h z 0 0 := by
  intro c
  induction c with
  | zero =>
    intro k w hkc hw
    refine v_iload_n dX13_isWaived_4 rfl 0 rfl ?_
    refine v_aload_n dX13_isWaived_5 rfl 2 rfl ?_
    refine v_getf 33 (ci := 11) (C := RX13) (T := TX13) (N := 71) rfl iwX13_isWaived_X13 (Nat.le_of_ble_eq_true rfl) (by decide +kernel) dX13_isWaived_6 (by repeat (first | (with_reducible refine sv_us.trans ?_; exact rfl) | with_reducible assumption | with_reducible refine (sv_un (by omega)).trans ?_)) (by repeat (first | with_reducible assumption | (with_reducible refine (sv_ls (by first | omega | (simp only [List.length_set]; omega))).trans ?_; exact rfl) | with_reducible refine (List.getElem?_set_ne (by decide)).trans ?_)) ?_
    refine v_icmp_ge (tgt := 173) dX13_isWaived_9 (by decide) (fun c_9 => ?_) (fun c_9 => ?_)
    · refine v_iload_n dX13_isWaived_173 rfl 1 rfl ?_
      exact v_iret rfl dX13_isWaived_174 (Nat.le_of_ble_eq_true rfl) (Nat.le_of_ble_eq_true rfl) (by rcases hw with ⟨e9, _⟩ | ⟨e9, _⟩ <;> (rw [e9]; rfl)) ⟨⟨w, rfl, hw.elim Or.inl (fun q => Or.inr ⟨q.1, fun ⟨i, hi, e⟩ => q.2 i (by omega) e⟩)⟩, rfl, rfl⟩
    · exact absurd (show nI nw ≤ nI k from nI_le (by omega) (by omega)) c_9
  | succ c ih =>
    intro k w hkc hw
    refine v_iload_n dX13_isWaived_4 rfl 0 rfl ?_
    refine v_aload_n dX13_isWaived_5 rfl 2 rfl ?_
    refine v_getf 33 (ci := 11) (C := RX13) (T := TX13) (N := 71) rfl iwX13_isWaived_X13 (Nat.le_of_ble_eq_true rfl) (by decide +kernel) dX13_isWaived_6 (by repeat (first | (with_reducible refine sv_us.trans ?_; exact rfl) | with_reducible assumption | with_reducible refine (sv_un (by omega)).trans ?_)) (by repeat (first | with_reducible assumption | (with_reducible refine (sv_ls (by first | omega | (simp only [List.length_set]; omega))).trans ?_; exact rfl) | with_reducible refine (List.getElem?_set_ne (by decide)).trans ?_)) ?_
    refine v_icmp_ge (tgt := 173) dX13_isWaived_9 (by decide) (fun c_9 => ?_) (fun c_9 => ?_)
    · exact absurd c_9 (nI_ge (by omega) (by omega))
    · refine v_iload_n dX13_isWaived_12 rfl 1 rfl ?_
      refine v_if_ne (tgt := 173) dX13_isWaived_13 (by decide) (fun c_13 => ?_) (fun c_13 => ?_)
      · refine v_iload_n dX13_isWaived_173 rfl 1 rfl ?_
        exact v_iret rfl dX13_isWaived_174 (Nat.le_of_ble_eq_true rfl) (Nat.le_of_ble_eq_true rfl) (by rcases hw with ⟨e9, _⟩ | ⟨e9, _⟩ <;> (rw [e9]; rfl)) ⟨⟨w, rfl, Or.inl (hw.resolve_right (fun q => c_13 q.1))⟩, rfl, rfl⟩
      · refine v_aload_n dX13_isWaived_16 rfl 2 rfl ?_
        refine v_getf 34 (ci := 11) (C := RX13) (T := TX13) (N := 71) rfl iwX13_isWaived_X13 (Nat.le_of_ble_eq_true rfl) (by decide +kernel) dX13_isWaived_17 (by repeat (first | (with_reducible refine sv_us.trans ?_; exact rfl) | with_reducible assumption | with_reducible refine (sv_un (by omega)).trans ?_)) (by repeat (first | with_reducible assumption | (with_reducible refine (sv_ls (by first | omega | (simp only [List.length_set]; omega))).trans ?_; exact rfl) | with_reducible refine (List.getElem?_set_ne (by decide)).trans ?_)) ?_
        refine v_bipush (v := 8) dX13_isWaived_20 (by decide) ?_
        refine v_iload_n dX13_isWaived_22 rfl 0 rfl ?_
        refine v_imul dX13_isWaived_23 ?_
        refine v_laldS (v := wr (8 * k + 0)) dX13_isWaived_24 (by repeat (first | (with_reducible refine sv_us.trans ?_; exact rfl) | with_reducible assumption | with_reducible refine (sv_un (by omega)).trans ?_)) (by rw [sv_8c]; exact vp_in_nI (by omega) (by omega)) (by rw [sv_8c, nI_clamp (by omega)]; exact hwr k (by omega) 0 (by omega)) ?_
        refine v_aload_n dX13_isWaived_25 rfl 2 rfl ?_
        refine v_getf 58 (ci := 11) (C := RX13) (T := TX13) (N := 71) rfl iwX13_isWaived_X13 (Nat.le_of_ble_eq_true rfl) (by decide +kernel) dX13_isWaived_26 (by repeat (first | (with_reducible refine sv_us.trans ?_; exact rfl) | with_reducible assumption | with_reducible refine (sv_un (by omega)).trans ?_)) (by repeat (first | with_reducible assumption | (with_reducible refine (sv_ls (by first | omega | (simp only [List.length_set]; omega))).trans ?_; exact rfl) | with_reducible refine (List.getElem?_set_ne (by decide)).trans ?_)) ?_
        refine v_i2l dX13_isWaived_29 rfl ?_
        refine v_lcmp_ne (tgt := 110) dX13_isWaived_30 dX13_isWaived_31 (by decide) (fun c_31 => ?_) (fun c_31 => ?_)
        · refine v_iconst (v := 0) dX13_isWaived_110 (by decide) ?_
          refine v_istore_n (L' := [(2, _), (3, _), (0, _), (1, _)]) dX13_isWaived_111 rfl (Nat.le_of_ble_eq_true rfl) rfl ?_
          refine v_iconst (v := 0) dX13_isWaived_112 (by decide) ?_
          refine v_istore (L' := [(4, _), (2, _), (3, _), (0, _), (1, _)]) dX13_isWaived_113 (Nat.le_of_ble_eq_true rfl) rfl ?_
          refine v_sub (L' := [(4, _), (2, _), (3, _), (0, _), (1, _)]) [0, 1, 2, 3, 4] rfl ?_
          refine l_isWaived1 G _ h z b k A0 nw fs rl wr ds tf wf hlen hm f_waived f_waivedAt f_rule f_told htf hwf hA0 hnw hwr d0 d1 d2 d3 d4 (by omega) (fun w1 hw1 => ?_) 4 0 _ rfl ?_
          · refine v_iinc (j := 0) (L' := [(3, _), (2, _), (0, _), (1, _)]) (v := nI (k + 1)) dX13_isWaived_167 rfl (nI_1 _) (Nat.le_of_ble_eq_true rfl) rfl ?_
            refine v_goto (tgt := 4) dX13_isWaived_170 (by decide) ?_
            refine ih (k + 1) w1 (by omega) (hw1.elim (fun q => Or.inl ⟨q.1, k, by omega, q.2⟩) (fun q => Or.inr ⟨q.1, fun i hi => ?_⟩))
            by_cases e : i = k
            · rw [e]; exact q.2
            · exact (hw.resolve_left (fun r => by rw [r.1] at c_13; exact absurd c_13 (by decide))).2 i (by omega)
          · first
            | exact Or.inr ⟨rfl, fun q => c_31 ((q 0 (by omega)).trans d0)⟩
            | exact Or.inr ⟨rfl, fun q => c_55 (q 1 (by omega))⟩
            | exact Or.inr ⟨rfl, fun q => c_79 (q 2 (by omega))⟩
            | exact Or.inr ⟨rfl, fun q => c_103 (q 3 (by omega))⟩
            | (refine Or.inl ⟨rfl, fun j hj => ?_, fun j hj => absurd hj (Nat.not_lt_zero j)⟩
               rcases (show j = 0 ∨ j = 1 ∨ j = 2 ∨ j = 3 by omega) with rfl | rfl | rfl | rfl
               · exact c_31.trans d0.symm
               · exact c_55
               · exact c_79
               · exact c_103)
        · refine v_aload_n dX13_isWaived_34 rfl 2 rfl ?_
          refine v_getf 34 (ci := 11) (C := RX13) (T := TX13) (N := 71) rfl iwX13_isWaived_X13 (Nat.le_of_ble_eq_true rfl) (by decide +kernel) dX13_isWaived_35 (by repeat (first | (with_reducible refine sv_us.trans ?_; exact rfl) | with_reducible assumption | with_reducible refine (sv_un (by omega)).trans ?_)) (by repeat (first | with_reducible assumption | (with_reducible refine (sv_ls (by first | omega | (simp only [List.length_set]; omega))).trans ?_; exact rfl) | with_reducible refine (List.getElem?_set_ne (by decide)).trans ?_)) ?_
          refine v_bipush (v := 8) dX13_isWaived_38 (by decide) ?_
          refine v_iload_n dX13_isWaived_40 rfl 0 rfl ?_
          refine v_imul dX13_isWaived_41 ?_
          refine v_iconst (v := 1) dX13_isWaived_42 (by decide) ?_
          refine v_iadd dX13_isWaived_43 ?_
          refine v_laldS (v := wr (8 * k + 1)) dX13_isWaived_44 (by repeat (first | (with_reducible refine sv_us.trans ?_; exact rfl) | with_reducible assumption | with_reducible refine (sv_un (by omega)).trans ?_)) (by rw [show (1 : Int32) = nI 1 from rfl, sv_8b]; exact vp_in_nI (by omega) (by omega)) (by rw [show (1 : Int32) = nI 1 from rfl, sv_8b, nI_clamp (by omega)]; exact hwr k (by omega) 1 (by omega)) ?_
          refine v_aload_n dX13_isWaived_45 rfl 2 rfl ?_
          refine v_getf 27 (ci := 11) (C := RX13) (T := TX13) (N := 71) rfl iwX13_isWaived_X13 (Nat.le_of_ble_eq_true rfl) (by decide +kernel) dX13_isWaived_46 (by repeat (first | (with_reducible refine sv_us.trans ?_; exact rfl) | with_reducible assumption | with_reducible refine (sv_un (by omega)).trans ?_)) (by repeat (first | with_reducible assumption | (with_reducible refine (sv_ls (by first | omega | (simp only [List.length_set]; omega))).trans ?_; exact rfl) | with_reducible refine (List.getElem?_set_ne (by decide)).trans ?_)) ?_
          refine v_iload_n dX13_isWaived_49 rfl 3 rfl ?_
          refine v_bipush (v := 7) dX13_isWaived_50 (by decide) ?_
          refine v_iadd dX13_isWaived_52 ?_
          refine v_laldS (v := ds 1) dX13_isWaived_53 (by repeat (first | (with_reducible refine sv_us.trans ?_; exact rfl) | with_reducible assumption | with_reducible refine (sv_un (by omega)).trans ?_)) (by rw [show (7 : Int32) = nI 7 from rfl, nI_add]; exact vp_in_nI (by omega) (by omega)) (by rw [show (7 : Int32) = nI 7 from rfl, nI_add, nI_clamp (by omega), d1]) ?_
          refine v_lcmp_ne (tgt := 110) dX13_isWaived_54 dX13_isWaived_55 (by decide) (fun c_55 => ?_) (fun c_55 => ?_)
          · refine v_iconst (v := 0) dX13_isWaived_110 (by decide) ?_
            refine v_istore_n (L' := [(2, _), (3, _), (0, _), (1, _)]) dX13_isWaived_111 rfl (Nat.le_of_ble_eq_true rfl) rfl ?_
            refine v_iconst (v := 0) dX13_isWaived_112 (by decide) ?_
            refine v_istore (L' := [(4, _), (2, _), (3, _), (0, _), (1, _)]) dX13_isWaived_113 (Nat.le_of_ble_eq_true rfl) rfl ?_
            refine v_sub (L' := [(4, _), (2, _), (3, _), (0, _), (1, _)]) [0, 1, 2, 3, 4] rfl ?_
            refine l_isWaived1 G _ h z b k A0 nw fs rl wr ds tf wf hlen hm f_waived f_waivedAt f_rule f_told htf hwf hA0 hnw hwr d0 d1 d2 d3 d4 (by omega) (fun w1 hw1 => ?_) 4 0 _ rfl ?_
            · refine v_iinc (j := 0) (L' := [(3, _), (2, _), (0, _), (1, _)]) (v := nI (k + 1)) dX13_isWaived_167 rfl (nI_1 _) (Nat.le_of_ble_eq_true rfl) rfl ?_
              refine v_goto (tgt := 4) dX13_isWaived_170 (by decide) ?_
              refine ih (k + 1) w1 (by omega) (hw1.elim (fun q => Or.inl ⟨q.1, k, by omega, q.2⟩) (fun q => Or.inr ⟨q.1, fun i hi => ?_⟩))
              by_cases e : i = k
              · rw [e]; exact q.2
              · exact (hw.resolve_left (fun r => by rw [r.1] at c_13; exact absurd c_13 (by decide))).2 i (by omega)
            · first
              | exact Or.inr ⟨rfl, fun q => c_31 ((q 0 (by omega)).trans d0)⟩
              | exact Or.inr ⟨rfl, fun q => c_55 (q 1 (by omega))⟩
              | exact Or.inr ⟨rfl, fun q => c_79 (q 2 (by omega))⟩
              | exact Or.inr ⟨rfl, fun q => c_103 (q 3 (by omega))⟩
              | (refine Or.inl ⟨rfl, fun j hj => ?_, fun j hj => absurd hj (Nat.not_lt_zero j)⟩
                 rcases (show j = 0 ∨ j = 1 ∨ j = 2 ∨ j = 3 by omega) with rfl | rfl | rfl | rfl
                 · exact c_31.trans d0.symm
                 · exact c_55
                 · exact c_79
                 · exact c_103)
          · refine v_aload_n dX13_isWaived_58 rfl 2 rfl ?_
            refine v_getf 34 (ci := 11) (C := RX13) (T := TX13) (N := 71) rfl iwX13_isWaived_X13 (Nat.le_of_ble_eq_true rfl) (by decide +kernel) dX13_isWaived_59 (by repeat (first | (with_reducible refine sv_us.trans ?_; exact rfl) | with_reducible assumption | with_reducible refine (sv_un (by omega)).trans ?_)) (by repeat (first | with_reducible assumption | (with_reducible refine (sv_ls (by first | omega | (simp only [List.length_set]; omega))).trans ?_; exact rfl) | with_reducible refine (List.getElem?_set_ne (by decide)).trans ?_)) ?_
            refine v_bipush (v := 8) dX13_isWaived_62 (by decide) ?_
            refine v_iload_n dX13_isWaived_64 rfl 0 rfl ?_
            refine v_imul dX13_isWaived_65 ?_
            refine v_bipush (v := 6) dX13_isWaived_66 (by decide) ?_
            refine v_iadd dX13_isWaived_68 ?_
            refine v_laldS (v := wr (8 * k + 2)) dX13_isWaived_69 (by repeat (first | (with_reducible refine sv_us.trans ?_; exact rfl) | with_reducible assumption | with_reducible refine (sv_un (by omega)).trans ?_)) (by rw [show (6 : Int32) = nI 6 from rfl, sv_8b]; exact vp_in_nI (by omega) (by omega)) (by rw [show (6 : Int32) = nI 6 from rfl, sv_8b, nI_clamp (by omega)]; exact hwr k (by omega) 2 (by omega)) ?_
            refine v_aload_n dX13_isWaived_70 rfl 2 rfl ?_
            refine v_getf 27 (ci := 11) (C := RX13) (T := TX13) (N := 71) rfl iwX13_isWaived_X13 (Nat.le_of_ble_eq_true rfl) (by decide +kernel) dX13_isWaived_71 (by repeat (first | (with_reducible refine sv_us.trans ?_; exact rfl) | with_reducible assumption | with_reducible refine (sv_un (by omega)).trans ?_)) (by repeat (first | with_reducible assumption | (with_reducible refine (sv_ls (by first | omega | (simp only [List.length_set]; omega))).trans ?_; exact rfl) | with_reducible refine (List.getElem?_set_ne (by decide)).trans ?_)) ?_
            refine v_iload_n dX13_isWaived_74 rfl 3 rfl ?_
            refine v_iconst (v := 4) dX13_isWaived_75 (by decide) ?_
            refine v_iadd dX13_isWaived_76 ?_
            refine v_laldS (v := ds 2) dX13_isWaived_77 (by repeat (first | (with_reducible refine sv_us.trans ?_; exact rfl) | with_reducible assumption | with_reducible refine (sv_un (by omega)).trans ?_)) (by rw [show (4 : Int32) = nI 4 from rfl, nI_add]; exact vp_in_nI (by omega) (by omega)) (by rw [show (4 : Int32) = nI 4 from rfl, nI_add, nI_clamp (by omega), d2]) ?_
            refine v_lcmp_ne (tgt := 110) dX13_isWaived_78 dX13_isWaived_79 (by decide) (fun c_79 => ?_) (fun c_79 => ?_)
            · refine v_iconst (v := 0) dX13_isWaived_110 (by decide) ?_
              refine v_istore_n (L' := [(2, _), (3, _), (0, _), (1, _)]) dX13_isWaived_111 rfl (Nat.le_of_ble_eq_true rfl) rfl ?_
              refine v_iconst (v := 0) dX13_isWaived_112 (by decide) ?_
              refine v_istore (L' := [(4, _), (2, _), (3, _), (0, _), (1, _)]) dX13_isWaived_113 (Nat.le_of_ble_eq_true rfl) rfl ?_
              refine v_sub (L' := [(4, _), (2, _), (3, _), (0, _), (1, _)]) [0, 1, 2, 3, 4] rfl ?_
              refine l_isWaived1 G _ h z b k A0 nw fs rl wr ds tf wf hlen hm f_waived f_waivedAt f_rule f_told htf hwf hA0 hnw hwr d0 d1 d2 d3 d4 (by omega) (fun w1 hw1 => ?_) 4 0 _ rfl ?_
              · refine v_iinc (j := 0) (L' := [(3, _), (2, _), (0, _), (1, _)]) (v := nI (k + 1)) dX13_isWaived_167 rfl (nI_1 _) (Nat.le_of_ble_eq_true rfl) rfl ?_
                refine v_goto (tgt := 4) dX13_isWaived_170 (by decide) ?_
                refine ih (k + 1) w1 (by omega) (hw1.elim (fun q => Or.inl ⟨q.1, k, by omega, q.2⟩) (fun q => Or.inr ⟨q.1, fun i hi => ?_⟩))
                by_cases e : i = k
                · rw [e]; exact q.2
                · exact (hw.resolve_left (fun r => by rw [r.1] at c_13; exact absurd c_13 (by decide))).2 i (by omega)
              · first
                | exact Or.inr ⟨rfl, fun q => c_31 ((q 0 (by omega)).trans d0)⟩
                | exact Or.inr ⟨rfl, fun q => c_55 (q 1 (by omega))⟩
                | exact Or.inr ⟨rfl, fun q => c_79 (q 2 (by omega))⟩
                | exact Or.inr ⟨rfl, fun q => c_103 (q 3 (by omega))⟩
                | (refine Or.inl ⟨rfl, fun j hj => ?_, fun j hj => absurd hj (Nat.not_lt_zero j)⟩
                   rcases (show j = 0 ∨ j = 1 ∨ j = 2 ∨ j = 3 by omega) with rfl | rfl | rfl | rfl
                   · exact c_31.trans d0.symm
                   · exact c_55
                   · exact c_79
                   · exact c_103)
            · refine v_aload_n dX13_isWaived_82 rfl 2 rfl ?_
              refine v_getf 34 (ci := 11) (C := RX13) (T := TX13) (N := 71) rfl iwX13_isWaived_X13 (Nat.le_of_ble_eq_true rfl) (by decide +kernel) dX13_isWaived_83 (by repeat (first | (with_reducible refine sv_us.trans ?_; exact rfl) | with_reducible assumption | with_reducible refine (sv_un (by omega)).trans ?_)) (by repeat (first | with_reducible assumption | (with_reducible refine (sv_ls (by first | omega | (simp only [List.length_set]; omega))).trans ?_; exact rfl) | with_reducible refine (List.getElem?_set_ne (by decide)).trans ?_)) ?_
              refine v_bipush (v := 8) dX13_isWaived_86 (by decide) ?_
              refine v_iload_n dX13_isWaived_88 rfl 0 rfl ?_
              refine v_imul dX13_isWaived_89 ?_
              refine v_bipush (v := 7) dX13_isWaived_90 (by decide) ?_
              refine v_iadd dX13_isWaived_92 ?_
              refine v_laldS (v := wr (8 * k + 3)) dX13_isWaived_93 (by repeat (first | (with_reducible refine sv_us.trans ?_; exact rfl) | with_reducible assumption | with_reducible refine (sv_un (by omega)).trans ?_)) (by rw [show (7 : Int32) = nI 7 from rfl, sv_8b]; exact vp_in_nI (by omega) (by omega)) (by rw [show (7 : Int32) = nI 7 from rfl, sv_8b, nI_clamp (by omega)]; exact hwr k (by omega) 3 (by omega)) ?_
              refine v_aload_n dX13_isWaived_94 rfl 2 rfl ?_
              refine v_getf 27 (ci := 11) (C := RX13) (T := TX13) (N := 71) rfl iwX13_isWaived_X13 (Nat.le_of_ble_eq_true rfl) (by decide +kernel) dX13_isWaived_95 (by repeat (first | (with_reducible refine sv_us.trans ?_; exact rfl) | with_reducible assumption | with_reducible refine (sv_un (by omega)).trans ?_)) (by repeat (first | with_reducible assumption | (with_reducible refine (sv_ls (by first | omega | (simp only [List.length_set]; omega))).trans ?_; exact rfl) | with_reducible refine (List.getElem?_set_ne (by decide)).trans ?_)) ?_
              refine v_iload_n dX13_isWaived_98 rfl 3 rfl ?_
              refine v_iconst (v := 5) dX13_isWaived_99 (by decide) ?_
              refine v_iadd dX13_isWaived_100 ?_
              refine v_laldS (v := ds 3) dX13_isWaived_101 (by repeat (first | (with_reducible refine sv_us.trans ?_; exact rfl) | with_reducible assumption | with_reducible refine (sv_un (by omega)).trans ?_)) (by rw [show (5 : Int32) = nI 5 from rfl, nI_add]; exact vp_in_nI (by omega) (by omega)) (by rw [show (5 : Int32) = nI 5 from rfl, nI_add, nI_clamp (by omega), d3]) ?_
              refine v_lcmp_ne (tgt := 110) dX13_isWaived_102 dX13_isWaived_103 (by decide) (fun c_103 => ?_) (fun c_103 => ?_)
              · refine v_iconst (v := 0) dX13_isWaived_110 (by decide) ?_
                refine v_istore_n (L' := [(2, _), (3, _), (0, _), (1, _)]) dX13_isWaived_111 rfl (Nat.le_of_ble_eq_true rfl) rfl ?_
                refine v_iconst (v := 0) dX13_isWaived_112 (by decide) ?_
                refine v_istore (L' := [(4, _), (2, _), (3, _), (0, _), (1, _)]) dX13_isWaived_113 (Nat.le_of_ble_eq_true rfl) rfl ?_
                refine v_sub (L' := [(4, _), (2, _), (3, _), (0, _), (1, _)]) [0, 1, 2, 3, 4] rfl ?_
                refine l_isWaived1 G _ h z b k A0 nw fs rl wr ds tf wf hlen hm f_waived f_waivedAt f_rule f_told htf hwf hA0 hnw hwr d0 d1 d2 d3 d4 (by omega) (fun w1 hw1 => ?_) 4 0 _ rfl ?_
                · refine v_iinc (j := 0) (L' := [(3, _), (2, _), (0, _), (1, _)]) (v := nI (k + 1)) dX13_isWaived_167 rfl (nI_1 _) (Nat.le_of_ble_eq_true rfl) rfl ?_
                  refine v_goto (tgt := 4) dX13_isWaived_170 (by decide) ?_
                  refine ih (k + 1) w1 (by omega) (hw1.elim (fun q => Or.inl ⟨q.1, k, by omega, q.2⟩) (fun q => Or.inr ⟨q.1, fun i hi => ?_⟩))
                  by_cases e : i = k
                  · rw [e]; exact q.2
                  · exact (hw.resolve_left (fun r => by rw [r.1] at c_13; exact absurd c_13 (by decide))).2 i (by omega)
                · first
                  | exact Or.inr ⟨rfl, fun q => c_31 ((q 0 (by omega)).trans d0)⟩
                  | exact Or.inr ⟨rfl, fun q => c_55 (q 1 (by omega))⟩
                  | exact Or.inr ⟨rfl, fun q => c_79 (q 2 (by omega))⟩
                  | exact Or.inr ⟨rfl, fun q => c_103 (q 3 (by omega))⟩
                  | (refine Or.inl ⟨rfl, fun j hj => ?_, fun j hj => absurd hj (Nat.not_lt_zero j)⟩
                     rcases (show j = 0 ∨ j = 1 ∨ j = 2 ∨ j = 3 by omega) with rfl | rfl | rfl | rfl
                     · exact c_31.trans d0.symm
                     · exact c_55
                     · exact c_79
                     · exact c_103)
              · refine v_iconst (v := 1) dX13_isWaived_106 (by decide) ?_
                refine v_goto (tgt := 111) dX13_isWaived_107 (by decide) ?_
                refine v_istore_n (L' := [(2, _), (3, _), (0, _), (1, _)]) dX13_isWaived_111 rfl (Nat.le_of_ble_eq_true rfl) rfl ?_
                refine v_iconst (v := 0) dX13_isWaived_112 (by decide) ?_
                refine v_istore (L' := [(4, _), (2, _), (3, _), (0, _), (1, _)]) dX13_isWaived_113 (Nat.le_of_ble_eq_true rfl) rfl ?_
                refine v_sub (L' := [(4, _), (2, _), (3, _), (0, _), (1, _)]) [0, 1, 2, 3, 4] rfl ?_
                refine l_isWaived1 G _ h z b k A0 nw fs rl wr ds tf wf hlen hm f_waived f_waivedAt f_rule f_told htf hwf hA0 hnw hwr d0 d1 d2 d3 d4 (by omega) (fun w1 hw1 => ?_) 4 0 _ rfl ?_
                · refine v_iinc (j := 0) (L' := [(3, _), (2, _), (0, _), (1, _)]) (v := nI (k + 1)) dX13_isWaived_167 rfl (nI_1 _) (Nat.le_of_ble_eq_true rfl) rfl ?_
                  refine v_goto (tgt := 4) dX13_isWaived_170 (by decide) ?_
                  refine ih (k + 1) w1 (by omega) (hw1.elim (fun q => Or.inl ⟨q.1, k, by omega, q.2⟩) (fun q => Or.inr ⟨q.1, fun i hi => ?_⟩))
                  by_cases e : i = k
                  · rw [e]; exact q.2
                  · exact (hw.resolve_left (fun r => by rw [r.1] at c_13; exact absurd c_13 (by decide))).2 i (by omega)
                · first
                  | exact Or.inr ⟨rfl, fun q => c_31 ((q 0 (by omega)).trans d0)⟩
                  | exact Or.inr ⟨rfl, fun q => c_55 (q 1 (by omega))⟩
                  | exact Or.inr ⟨rfl, fun q => c_79 (q 2 (by omega))⟩
                  | exact Or.inr ⟨rfl, fun q => c_103 (q 3 (by omega))⟩
                  | (refine Or.inl ⟨rfl, fun j hj => ?_, fun j hj => absurd hj (Nat.not_lt_zero j)⟩
                     rcases (show j = 0 ∨ j = 1 ∨ j = 2 ∨ j = 3 by omega) with rfl | rfl | rfl | rfl
                     · exact c_31.trans d0.symm
                     · exact c_55
                     · exact c_79
                     · exact c_103)

set_option maxHeartbeats 4000000 in
set_option maxRecDepth 100000 in
theorem m_isWaived (G : sv_G) (h : sv_h) (z b : Nat) (A0 nw : Nat) (fs : List Value) (rl : Int32) (wr ds tf wf : Nat → Int64) (hlen : fs.length = 71) (hm : h (b + 220) = some (.inr (11, fs))) (f_waived : fs[33]? = some (.int (nI nw))) (f_waivedAt : fs[34]? = some (.ref (b + 242))) (f_rule : fs[58]? = some (.int rl)) (f_told : fs[27]? = some (.ref (b + 241))) (htf : ab_J G h (b + 241) 36048 tf) (hwf : ab_J G h (b + 242) 320 wf) (hA0 : A0 + 12 ≤ 36048) (hnw : nw ≤ 40) (hwr : ∀ k, k < nw → ∀ j, j < 8 → wf (8 * k + ab_wc j) = wr (8 * k + j)) (d0 : ds 0 = rl.toInt64) (d1 : ds 1 = tf (A0 + 7)) (d2 : ds 2 = tf (A0 + 4)) (d3 : ds 3 = tf (A0 + 5)) (d4 : ∀ j, j < 4 → ds (4 + j) = tf (A0 + (8 + j))) : CT G mX13_isWaived [.ref (b + 220), .int (nI A0)] h z (fun v h1 z1 => (∃ w : Int32, v = some (.int w) ∧ ((w = 1 ∧ ab_cv wr ds nw) ∨ (w = 0 ∧ ¬ ab_cv wr ds nw))) ∧ h1 = h ∧ z1 = z) := by
  refine CT.of (by decide +kernel) rfl rfl (Nat.le_of_ble_eq_true rfl) ?_
  refine v_iconst (v := 0) dX13_isWaived_0 (by decide) ?_
  refine v_istore_n (L' := [(2, _), (0, _), (1, _)]) dX13_isWaived_1 rfl (Nat.le_of_ble_eq_true rfl) rfl ?_
  refine v_iconst (v := 0) dX13_isWaived_2 (by decide) ?_
  refine v_istore_n (L' := [(3, _), (2, _), (0, _), (1, _)]) dX13_isWaived_3 rfl (Nat.le_of_ble_eq_true rfl) rfl ?_
  refine v_sub (L' := [(3, _), (2, _), (0, _), (1, _)]) [0, 1, 2, 3] rfl ?_
  exact l_isWaived2 G h z b A0 nw fs rl wr ds tf wf hlen hm f_waived f_waivedAt f_rule f_told htf hwf hA0 hnw hwr d0 d1 d2 d3 d4 nw 0 0 (by omega) (Or.inr ⟨rfl, fun q hq => absurd hq (Nat.not_lt_zero q)⟩)

