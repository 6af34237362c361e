/-- what makes a violation the waived one -/
def ab_ds (rl : Int32) (lr : Nat → Int64) (k j : Nat) : Int64 := if j = 0 then rl.toInt64 else if j = 1 then lr (12 * k + 7) else if j = 2 then lr (12 * k + 4) else if j = 3 then lr (12 * k + 5) else lr (12 * k + (j + 4))
/-- waiver i is the one described -/
def ab_mt (wr ds : Nat → Int64) (i : Nat) : Prop := ∀ j, j < 8 → wr (8 * i + j) = ds j
def ab_cv (wr ds : Nat → Int64) (n : Nat) : Prop := ∃ i, i < n ∧ ab_mt wr ds i
theorem sv_c0 : (0 : Int32).toNatClampNeg = 0 := by decide
theorem sv_c1 : (1 : Int32).toNatClampNeg = 1 := by decide
theorem sv_c2 : (2 : Int32).toNatClampNeg = 2 := by decide
theorem sv_c3 : (3 : Int32).toNatClampNeg = 3 := by decide
abbrev mX11_describe : sv_M := (cX11_describe, 5, yX11_describe, wsX11_describe, none, { frames := 1, cells := 0, slots := 0, locals := 22 }, [])
abbrev mX11_isAsked : sv_M := (cX11_isAsked, 3, yX11_isAsked, wsX11_isAsked, (some .boolean), { frames := 0, cells := 0, slots := 0, locals := 0 }, [])
abbrev mX11_covers : sv_M := (cX11_covers, 5, yX11_covers, wsX11_covers, (some .boolean), { frames := 2, cells := 0, slots := 0, locals := 46 }, [])
set_option maxHeartbeats 4000000 in
set_option maxRecDepth 100000 in
theorem l_describe (G : sv_G) (h : sv_h) (z b n : Nat) (la nl k : Nat) (rl : Int32) (lr : Nat → Int64) (hw : h (b + 180) = some (.inr (9, [.ref (b + 181), .ref (b + 182), .int (nI n)]))) (hla : ab_late G h la nl lr) (hk : k < nl) (hl1 : b + 204 ≤ la) (hl2 : la < b + 216) : ∀ (c i : Nat) (hi : sv_h) (f : Nat → Int64), i + c = 4 → ab_J G hi (b + 182) 8 f → (∀ j, j < 4 + i → f j = ab_ds rl lr k j) → (∀ a, a ≠ b + 182 → hi a = h a) → V G mX11_describe (sv_MQ G mX11_describe (fun v h1 z1 => v = none ∧ z1 = z ∧ (∃ f1, ab_J G h1 (b + 182) 8 f1 ∧ ∀ j, j < 8 → f1 j = ab_ds rl lr k j) ∧ ∀ a, a ≠ b + 182 → h1 a = h a)) 48 [(4, .int (nI i)), (0, .ref (b + 180)), (1, .int rl), (2, .ref la), (3, .int (nI k))] [] hi z 0 0 := by
  obtain ⟨hnl, xx, ro, od, st, us, ov, hm0, ww, ⟨y0, y1, y2, y3, y4⟩, y5⟩ := id hla
  intro c
  induction c with
  | zero =>
    intro i hi f hic hf hfj hfr
    refine v_iload dX11_describe_48 0 rfl ?_
    refine v_iconst (v := 4) dX11_describe_50 (by decide) ?_
    refine v_icmp_ge (tgt := 79) dX11_describe_51 (by decide) (fun c_51 => ?_) (fun c_51 => ?_)
    · exact v_ret rfl dX11_describe_79 (Nat.le_of_ble_eq_true rfl) (Nat.le_of_ble_eq_true rfl) ⟨rfl, rfl, ⟨f, hf, fun j hj => hfj j (by omega)⟩, hfr⟩
    · exact absurd (show (4 : Int32) ≤ nI i from nI_le (a := 4) (by omega) (by omega)) c_51
  | succ c ih =>
    intro i hi f hic hf hfj hfr
    refine v_iload dX11_describe_48 0 rfl ?_
    refine v_iconst (v := 4) dX11_describe_50 (by decide) ?_
    refine v_icmp_ge (tgt := 79) dX11_describe_51 (by decide) (fun c_51 => ?_) (fun c_51 => ?_)
    · exact absurd c_51 (nI_ge (b := 4) (by omega) (by omega))
    · refine v_aload_n dX11_describe_54 rfl 1 rfl ?_
      refine v_getf 1 (ci := 9) (C := RX11) (T := TX11) (N := 3) rfl iwX11_describe_X11 (Nat.le_of_ble_eq_true rfl) (by decide +kernel) dX11_describe_55 (by first | with_reducible assumption | exact (hfr _ (by omega)).trans hw) rfl ?_
      refine v_iconst (v := 4) dX11_describe_58 (by decide) ?_
      refine v_iload dX11_describe_59 0 rfl ?_
      refine v_iadd dX11_describe_61 ?_
      refine v_aload_n dX11_describe_62 rfl 3 rfl ?_
      refine v_iload_n dX11_describe_63 rfl 4 rfl ?_
      refine v_bipush (v := 8) dX11_describe_64 (by decide) ?_
      refine v_iload dX11_describe_66 0 rfl ?_
      refine v_iadd dX11_describe_68 ?_
      refine v_callV (M' := mX10_value) (n := 2) (As := [_, _]) (ci := 8) (r := (RX10, TX10, 7)) gX11_describe_X10_value rfl (by decide +kernel) ⟨(Nat.le_of_ble_eq_true rfl), (Nat.le_of_ble_eq_true rfl)⟩ rfl rfl dX11_describe_69 rfl ⟨(Nat.le_of_ble_eq_true rfl), (Nat.le_of_ble_eq_true rfl)⟩ (Nat.le_of_ble_eq_true rfl) (hfr _ (by omega) |>.trans y1) rfl ((by have e := c_late_value G hi z la nl k (8 + i) lr (hla.kept (fun a q1 q2 => hfr a (by omega))) hk (by omega); rw [← nI_add] at e; exact e)) (fun v h1 z1 hq => ?_)
      obtain ⟨rfl, rfl, rfl⟩ := hq
      refine v_last dX11_describe_72 (by first | with_reducible assumption | exact (hfr _ (by omega)).trans hw) (by rw [show (4 : Int32) = nI 4 from rfl, nI_add]; exact vp_in_nI (by omega) (by omega)) ?_
      refine v_iinc (j := 0) (L' := [(4, _), (0, _), (1, _), (2, _), (3, _)]) (v := nI (i + 1)) dX11_describe_73 rfl (nI_1 _) (Nat.le_of_ble_eq_true rfl) rfl ?_
      refine v_goto (tgt := 48) dX11_describe_76 (by decide) ?_
      refine v_sub (L' := [(4, _), (0, _), (1, _), (2, _), (3, _)]) [0, 1, 2, 3, 4] rfl ?_
      have ecl : ((4 : Int32) + nI i).toNatClampNeg = 4 + i := by rw [show (4 : Int32) = nI 4 from rfl, nI_add, nI_clamp (by omega)]
      refine ih (i + 1) _ _ (by omega) sv_us (fun j hj => ?_) (fun a q1 => (sv_un q1).trans (hfr a q1))
      rw [ecl]
      by_cases q : j = 4 + i
      · rw [q, sv_updL_eq, ab_ds, if_neg (by omega), if_neg (by omega), if_neg (by omega), if_neg (by omega), show 4 + i + 4 = 8 + i by omega]
      · rw [sv_updL_ne q]; exact hfj j (by omega)

set_option maxHeartbeats 4000000 in
set_option maxRecDepth 100000 in
theorem c_describe (G : sv_G) (h : sv_h) (z b n : Nat) (la nl k : Nat) (rl : Int32) (lr : Nat → Int64) (f : Nat → Int64) (hw : h (b + 180) = some (.inr (9, [.ref (b + 181), .ref (b + 182), .int (nI n)]))) (hla : ab_late G h la nl lr) (hk : k < nl) (hl1 : b + 204 ≤ la) (hl2 : la < b + 216) (hf : ab_J G h (b + 182) 8 f) : CT G mX11_describe [.ref (b + 180), .int rl, .ref la, .int (nI k)] h z (fun v h1 z1 => v = none ∧ z1 = z ∧ (∃ f1, ab_J G h1 (b + 182) 8 f1 ∧ ∀ j, j < 8 → f1 j = ab_ds rl lr k j) ∧ ∀ a, a ≠ b + 182 → h1 a = h a) := by
  refine CT.of (by decide +kernel) rfl rfl (Nat.le_of_ble_eq_true rfl) ?_
  obtain ⟨hnl, xx, ro, od, st, us, ov, hm0, ww, ⟨y0, y1, y2, y3, y4⟩, y5⟩ := id hla
  refine v_aload_n dX11_describe_0 rfl 0 rfl ?_
  refine v_getf 1 (ci := 9) (C := RX11) (T := TX11) (N := 3) rfl iwX11_describe_X11 (Nat.le_of_ble_eq_true rfl) (by decide +kernel) dX11_describe_1 (by repeat (first | (with_reducible refine sv_us.trans ?_; exact rfl) | with_reducible assumption | with_reducible refine (sv_un (by omega)).trans ?_)) rfl ?_
  refine v_iconst (v := 0) dX11_describe_4 (by decide) ?_
  refine v_iload_n dX11_describe_5 rfl 1 rfl ?_
  refine v_i2l dX11_describe_6 rfl ?_
  refine v_last dX11_describe_7 (by repeat (first | (with_reducible refine sv_us.trans ?_; exact rfl) | with_reducible assumption | with_reducible refine (sv_un (by omega)).trans ?_)) (show vp_in (nI 0) 8 from vp_in_nI (by omega) (by omega)) ?_
  refine v_aload_n dX11_describe_8 rfl 0 rfl ?_
  refine v_getf 1 (ci := 9) (C := RX11) (T := TX11) (N := 3) rfl iwX11_describe_X11 (Nat.le_of_ble_eq_true rfl) (by decide +kernel) dX11_describe_9 (by repeat (first | (with_reducible refine sv_us.trans ?_; exact rfl) | with_reducible assumption | with_reducible refine (sv_un (by omega)).trans ?_)) rfl ?_
  refine v_iconst (v := 1) dX11_describe_12 (by decide) ?_
  refine v_aload_n dX11_describe_13 rfl 2 rfl ?_
  refine v_iload_n dX11_describe_14 rfl 3 rfl ?_
  refine v_bipush (v := 7) dX11_describe_15 (by decide) ?_
  refine v_callV (M' := mX10_value) (n := 2) (As := [_, _]) (ci := 8) (r := (RX10, TX10, 7)) gX11_describe_X10_value rfl (by decide +kernel) ⟨(Nat.le_of_ble_eq_true rfl), (Nat.le_of_ble_eq_true rfl)⟩ rfl rfl dX11_describe_17 rfl ⟨(Nat.le_of_ble_eq_true rfl), (Nat.le_of_ble_eq_true rfl)⟩ (Nat.le_of_ble_eq_true rfl) (by repeat (first | (with_reducible refine sv_us.trans ?_; exact rfl) | with_reducible assumption | with_reducible refine (sv_un (by omega)).trans ?_)) rfl (c_late_value G _ _ la nl k 7 lr (hla.kept (fun a q1 q2 => by repeat (first | with_reducible rfl | with_reducible refine (sv_un (by omega)).trans ?_))) hk (by omega)) (fun v h1 z1 hq => ?_)
  obtain ⟨rfl, rfl, rfl⟩ := hq
  refine v_last dX11_describe_20 (by repeat (first | (with_reducible refine sv_us.trans ?_; exact rfl) | with_reducible assumption | with_reducible refine (sv_un (by omega)).trans ?_)) (show vp_in (nI 1) 8 from vp_in_nI (by omega) (by omega)) ?_
  refine v_aload_n dX11_describe_21 rfl 0 rfl ?_
  refine v_getf 1 (ci := 9) (C := RX11) (T := TX11) (N := 3) rfl iwX11_describe_X11 (Nat.le_of_ble_eq_true rfl) (by decide +kernel) dX11_describe_22 (by repeat (first | (with_reducible refine sv_us.trans ?_; exact rfl) | with_reducible assumption | with_reducible refine (sv_un (by omega)).trans ?_)) rfl ?_
  refine v_iconst (v := 2) dX11_describe_25 (by decide) ?_
  refine v_aload_n dX11_describe_26 rfl 2 rfl ?_
  refine v_iload_n dX11_describe_27 rfl 3 rfl ?_
  refine v_iconst (v := 4) dX11_describe_28 (by decide) ?_
  refine v_callV (M' := mX10_value) (n := 2) (As := [_, _]) (ci := 8) (r := (RX10, TX10, 7)) gX11_describe_X10_value rfl (by decide +kernel) ⟨(Nat.le_of_ble_eq_true rfl), (Nat.le_of_ble_eq_true rfl)⟩ rfl rfl dX11_describe_29 rfl ⟨(Nat.le_of_ble_eq_true rfl), (Nat.le_of_ble_eq_true rfl)⟩ (Nat.le_of_ble_eq_true rfl) (by repeat (first | (with_reducible refine sv_us.trans ?_; exact rfl) | with_reducible assumption | with_reducible refine (sv_un (by omega)).trans ?_)) rfl (c_late_value G _ _ la nl k 4 lr (hla.kept (fun a q1 q2 => by repeat (first | with_reducible rfl | with_reducible refine (sv_un (by omega)).trans ?_))) hk (by omega)) (fun v h1 z1 hq => ?_)
  obtain ⟨rfl, rfl, rfl⟩ := hq
  refine v_last dX11_describe_32 (by repeat (first | (with_reducible refine sv_us.trans ?_; exact rfl) | with_reducible assumption | with_reducible refine (sv_un (by omega)).trans ?_)) (show vp_in (nI 2) 8 from vp_in_nI (by omega) (by omega)) ?_
  refine v_aload_n dX11_describe_33 rfl 0 rfl ?_
  refine v_getf 1 (ci := 9) (C := RX11) (T := TX11) (N := 3) rfl iwX11_describe_X11 (Nat.le_of_ble_eq_true rfl) (by decide +kernel) dX11_describe_34 (by repeat (first | (with_reducible refine sv_us.trans ?_; exact rfl) | with_reducible assumption | with_reducible refine (sv_un (by omega)).trans ?_)) rfl ?_
  refine v_iconst (v := 3) dX11_describe_37 (by decide) ?_
  refine v_aload_n dX11_describe_38 rfl 2 rfl ?_
  refine v_iload_n dX11_describe_39 rfl 3 rfl ?_
  refine v_iconst (v := 5) dX11_describe_40 (by decide) ?_
  refine v_callV (M' := mX10_value) (n := 2) (As := [_, _]) (ci := 8) (r := (RX10, TX10, 7)) gX11_describe_X10_value rfl (by decide +kernel) ⟨(Nat.le_of_ble_eq_true rfl), (Nat.le_of_ble_eq_true rfl)⟩ rfl rfl dX11_describe_41 rfl ⟨(Nat.le_of_ble_eq_true rfl), (Nat.le_of_ble_eq_true rfl)⟩ (Nat.le_of_ble_eq_true rfl) (by repeat (first | (with_reducible refine sv_us.trans ?_; exact rfl) | with_reducible assumption | with_reducible refine (sv_un (by omega)).trans ?_)) rfl (c_late_value G _ _ la nl k 5 lr (hla.kept (fun a q1 q2 => by repeat (first | with_reducible rfl | with_reducible refine (sv_un (by omega)).trans ?_))) hk (by omega)) (fun v h1 z1 hq => ?_)
  obtain ⟨rfl, rfl, rfl⟩ := hq
  refine v_last dX11_describe_44 (by repeat (first | (with_reducible refine sv_us.trans ?_; exact rfl) | with_reducible assumption | with_reducible refine (sv_un (by omega)).trans ?_)) (show vp_in (nI 3) 8 from vp_in_nI (by omega) (by omega)) ?_
  refine v_iconst (v := 0) dX11_describe_45 (by decide) ?_
  refine v_istore (L' := [(4, _), (0, _), (1, _), (2, _), (3, _)]) dX11_describe_46 (Nat.le_of_ble_eq_true rfl) rfl ?_
  refine v_sub (L' := [(4, _), (0, _), (1, _), (2, _), (3, _)]) [0, 1, 2, 3, 4] rfl ?_
  refine l_describe G h _ b n la nl k rl lr hw hla hk hl1 hl2 4 0 _ _ rfl sv_us (fun j hj => ?_) (fun a q1 => by repeat (first | with_reducible rfl | with_reducible refine (sv_un q1).trans ?_))
  rcases (show j = 0 ∨ j = 1 ∨ j = 2 ∨ j = 3 by omega) with rfl | rfl | rfl | rfl
  · simp [vp_updL, sv_c0, sv_c1, sv_c2, sv_c3, ab_ds]
  · simp [vp_updL, sv_c0, sv_c1, sv_c2, sv_c3, ab_ds]
  · simp [vp_updL, sv_c0, sv_c1, sv_c2, sv_c3, ab_ds]
  · simp [vp_updL, sv_c0, sv_c1, sv_c2, sv_c3, ab_ds]

theorem sv_8 (i j : Nat) : nI i * 8 + nI j = nI (8 * i + j) := by rw [show (8 : Int32) = nI 8 from rfl, sv_nm2, nI_add, Nat.mul_comm]
set_option maxHeartbeats 4000000 in
set_option maxRecDepth 100000 in
theorem l_isAsked (G : sv_G) (h : sv_h) (z b i : Nat) (n : Int32) (hw : h (b + 180) = some (.inr (9, [.ref (b + 181), .ref (b + 182), .int (n)]))) (rf af : Nat → Int64) (hrf : ab_J G h (b + 181) 320 rf) (haf : ab_J G h (b + 182) 8 af) (hi40 : i < 40) : ∀ (c j : Nat), j + c = 8 → (∀ q, q < j → rf (8 * i + q) = af q) → V G mX11_isAsked (sv_MQ G mX11_isAsked (fun v h1 z1 => (∃ w : Int32, v = some (.int w) ∧ ((w = 1 ∧ ab_mt rf af i) ∨ (w = 0 ∧ ¬ ab_mt rf af i))) ∧ h1 = h ∧ z1 = z)) 2 [(2, .int (nI j)), (0, .ref (b + 180)), (1, .int (nI i))] [] h z 0 0 := by
  intro c
  induction c with
  | zero =>
    intro j hjc hj
    refine v_iload_n dX11_isAsked_2 rfl 0 rfl ?_
    refine v_bipush (v := 8) dX11_isAsked_3 (by decide) ?_
    refine v_icmp_ge (tgt := 37) dX11_isAsked_5 (by decide) (fun c_5 => ?_) (fun c_5 => ?_)
    · refine v_iconst (v := 1) dX11_isAsked_37 (by decide) ?_
      exact v_iret rfl dX11_isAsked_38 (Nat.le_of_ble_eq_true rfl) (Nat.le_of_ble_eq_true rfl) rfl ⟨⟨1, rfl, Or.inl ⟨rfl, fun q hq => hj q (by omega)⟩⟩, rfl, rfl⟩
    · exact absurd (show (8 : Int32) ≤ nI j from nI_le (a := 8) (by omega) (by omega)) c_5
  | succ c ih =>
    intro j hjc hj
    refine v_iload_n dX11_isAsked_2 rfl 0 rfl ?_
    refine v_bipush (v := 8) dX11_isAsked_3 (by decide) ?_
    refine v_icmp_ge (tgt := 37) dX11_isAsked_5 (by decide) (fun c_5 => ?_) (fun c_5 => ?_)
    · exact absurd c_5 (nI_ge (b := 8) (by omega) (by omega))
    · refine v_aload_n dX11_isAsked_8 rfl 1 rfl ?_
      refine v_getf 0 (ci := 9) (C := RX11) (T := TX11) (N := 3) rfl iwX11_isAsked_X11 (Nat.le_of_ble_eq_true rfl) (by decide +kernel) dX11_isAsked_9 (by repeat (first | (with_reducible refine sv_us.trans ?_; exact rfl) | with_reducible assumption | with_reducible refine (sv_un (by omega)).trans ?_)) rfl ?_
      refine v_iload_n dX11_isAsked_12 rfl 2 rfl ?_
      refine v_bipush (v := 8) dX11_isAsked_13 (by decide) ?_
      refine v_imul dX11_isAsked_15 ?_
      refine v_iload_n dX11_isAsked_16 rfl 0 rfl ?_
      refine v_iadd dX11_isAsked_17 ?_
      refine v_laldS (v := rf (8 * i + j)) dX11_isAsked_18 (by repeat (first | (with_reducible refine sv_us.trans ?_; exact rfl) | with_reducible assumption | with_reducible refine (sv_un (by omega)).trans ?_)) (by rw [sv_8]; exact vp_in_nI (by omega) (by omega)) (by rw [sv_8, nI_clamp (by omega)]) ?_
      refine v_aload_n dX11_isAsked_19 rfl 1 rfl ?_
      refine v_getf 1 (ci := 9) (C := RX11) (T := TX11) (N := 3) rfl iwX11_isAsked_X11 (Nat.le_of_ble_eq_true rfl) (by decide +kernel) dX11_isAsked_20 (by repeat (first | (with_reducible refine sv_us.trans ?_; exact rfl) | with_reducible assumption | with_reducible refine (sv_un (by omega)).trans ?_)) rfl ?_
      refine v_iload_n dX11_isAsked_23 rfl 0 rfl ?_
      refine v_laldS (v := af j) dX11_isAsked_24 (by repeat (first | (with_reducible refine sv_us.trans ?_; exact rfl) | with_reducible assumption | with_reducible refine (sv_un (by omega)).trans ?_)) (vp_in_nI (by omega) (by omega)) (by rw [nI_clamp (by omega)]) ?_
      refine v_lcmp_eq (tgt := 31) dX11_isAsked_25 dX11_isAsked_26 (by decide) (fun c_26 => ?_) (fun c_26 => ?_)
      · refine v_iinc (j := 0) (L' := [(2, _), (0, _), (1, _)]) (v := nI (j + 1)) dX11_isAsked_31 rfl (nI_1 _) (Nat.le_of_ble_eq_true rfl) rfl ?_
        refine v_goto (tgt := 2) dX11_isAsked_34 (by decide) ?_
        refine v_sub (L' := [(2, _), (0, _), (1, _)]) [0, 1, 2] rfl ?_
        refine ih (j + 1) (by omega) (fun q hq => ?_)
        by_cases e : q = j
        · rw [e]; exact c_26
        · exact hj q (by omega)
      · refine v_iconst (v := 0) dX11_isAsked_29 (by decide) ?_
        exact v_iret rfl dX11_isAsked_30 (Nat.le_of_ble_eq_true rfl) (Nat.le_of_ble_eq_true rfl) rfl ⟨⟨0, rfl, Or.inr ⟨rfl, fun q => c_26 (q j (by omega))⟩⟩, rfl, rfl⟩

set_option maxHeartbeats 4000000 in
set_option maxRecDepth 100000 in
theorem c_isAsked (G : sv_G) (h : sv_h) (z b i : Nat) (n : Int32) (hw : h (b + 180) = some (.inr (9, [.ref (b + 181), .ref (b + 182), .int (n)]))) (rf af : Nat → Int64) (hrf : ab_J G h (b + 181) 320 rf) (haf : ab_J G h (b + 182) 8 af) (hi40 : i < 40) : CT G mX11_isAsked [.ref (b + 180), .int (nI i)] h z (fun v h1 z1 => (∃ w : Int32, v = some (.int w) ∧ ((w = 1 ∧ ab_mt rf af i) ∨ (w = 0 ∧ ¬ ab_mt rf af i))) ∧ h1 = h ∧ z1 = z) := by
  refine CT.of (by decide +kernel) rfl rfl (Nat.le_of_ble_eq_true rfl) ?_
  refine v_iconst (v := 0) dX11_isAsked_0 (by decide) ?_
  refine v_istore_n (L' := [(2, _), (0, _), (1, _)]) dX11_isAsked_1 rfl (Nat.le_of_ble_eq_true rfl) rfl ?_
  refine v_sub (L' := [(2, _), (0, _), (1, _)]) [0, 1, 2] rfl ?_
  exact l_isAsked G h z b i n hw rf af hrf haf hi40 8 0 rfl (fun q hq => absurd hq (Nat.not_lt_zero q))

set_option maxHeartbeats 4000000 in
set_option maxRecDepth 100000 in
theorem l_covers (G : sv_G) (h hi : sv_h) (z b n la k : Nat) (rl : Int32) (lr wr : Nat → Int64) (hw : h (b + 180) = some (.inr (9, [.ref (b + 181), .ref (b + 182), .int (nI n)]))) (rf : Nat → Int64) (hrf : ab_J G h (b + 181) 320 rf) (hwr : ∀ k, k < n → ∀ j, j < 8 → rf (8 * k + j) = wr (8 * k + j)) (hn : n ≤ 40) (f1 : Nat → Int64) (hf1 : ab_J G hi (b + 182) 8 f1) (hds : ∀ j, j < 8 → f1 j = ab_ds rl lr k j) (hfr : ∀ a, a ≠ b + 182 → hi a = h a) : ∀ (c i : Nat), i + c = n → (∀ q, q < i → ¬ ab_mt wr (ab_ds rl lr k) q) → V G mX11_covers (sv_MQ G mX11_covers (fun v h1 z1 => z1 = z ∧ (∃ w : Int32, v = some (.int w) ∧ ((w = 1 ∧ ab_cv wr (ab_ds rl lr k) n) ∨ (w = 0 ∧ ¬ ab_cv wr (ab_ds rl lr k) n))) ∧ (∃ f1, ab_J G h1 (b + 182) 8 f1) ∧ ∀ a, a ≠ b + 182 → h1 a = h a)) 10 [(4, .int (nI i)), (0, .ref (b + 180)), (1, .int rl), (2, .ref la), (3, .int (nI k))] [] hi z 0 0 := by
  have hw1 := (hfr (b + 180) (by omega)).trans hw
  have hr1 := (hfr (b + 181) (by omega)).trans hrf
  have hmt : ∀ q, q < n → (ab_mt rf f1 q ↔ ab_mt wr (ab_ds rl lr k) q) := fun q hq => ⟨fun e j hj => (hwr q hq j hj).symm.trans ((e j hj).trans (hds j hj)), fun e j hj => (hwr q hq j hj).trans ((e j hj).trans (hds j hj).symm)⟩
  intro c
  induction c with
  | zero =>
    intro i hic hno
    refine v_iload dX11_covers_10 0 rfl ?_
    refine v_aload_n dX11_covers_12 rfl 1 rfl ?_
    refine v_getf 2 (ci := 9) (C := RX11) (T := TX11) (N := 3) rfl iwX11_covers_X11 (Nat.le_of_ble_eq_true rfl) (by decide +kernel) dX11_covers_13 (by repeat (first | (with_reducible refine sv_us.trans ?_; exact rfl) | with_reducible assumption | with_reducible refine (sv_un (by omega)).trans ?_)) rfl ?_
    refine v_icmp_ge (tgt := 36) dX11_covers_16 (by decide) (fun c_16 => ?_) (fun c_16 => ?_)
    · refine v_iconst (v := 0) dX11_covers_36 (by decide) ?_
      exact v_iret rfl dX11_covers_37 (Nat.le_of_ble_eq_true rfl) (Nat.le_of_ble_eq_true rfl) rfl ⟨rfl, ⟨0, rfl, Or.inr ⟨rfl, fun ⟨q, hq, e⟩ => hno q (by omega) e⟩⟩, ⟨f1, hf1⟩, hfr⟩
    · exact absurd (show nI n ≤ nI i from nI_le (by omega) (by omega)) c_16
  | succ c ih =>
    intro i hic hno
    refine v_iload dX11_covers_10 0 rfl ?_
    refine v_aload_n dX11_covers_12 rfl 1 rfl ?_
    refine v_getf 2 (ci := 9) (C := RX11) (T := TX11) (N := 3) rfl iwX11_covers_X11 (Nat.le_of_ble_eq_true rfl) (by decide +kernel) dX11_covers_13 (by repeat (first | (with_reducible refine sv_us.trans ?_; exact rfl) | with_reducible assumption | with_reducible refine (sv_un (by omega)).trans ?_)) rfl ?_
    refine v_icmp_ge (tgt := 36) dX11_covers_16 (by decide) (fun c_16 => ?_) (fun c_16 => ?_)
    · exact absurd c_16 (nI_ge (by omega) (by omega))
    · refine v_aload_n dX11_covers_19 rfl 1 rfl ?_
      refine v_iload dX11_covers_20 0 rfl ?_
      refine v_callV (M' := mX11_isAsked) (n := 1) (As := [_]) (ci := 9) (r := (RX11, TX11, 3)) gX11_covers_X11_isAsked rfl (by decide +kernel) ⟨(Nat.le_of_ble_eq_true rfl), (Nat.le_of_ble_eq_true rfl)⟩ rfl rfl dX11_covers_22 rfl ⟨(Nat.le_of_ble_eq_true rfl), (Nat.le_of_ble_eq_true rfl)⟩ (Nat.le_of_ble_eq_true rfl) (by repeat (first | (with_reducible refine sv_us.trans ?_; exact rfl) | with_reducible assumption | with_reducible refine (sv_un (by omega)).trans ?_)) rfl (c_isAsked G hi z b i _ hw1 rf f1 hr1 hf1 (by omega)) (fun v h1 z1 hq => ?_)
      obtain ⟨⟨w, rfl, hw9⟩, rfl, rfl⟩ := hq
      refine v_if_eq (tgt := 30) dX11_covers_25 (by decide) (fun c_25 => ?_) (fun c_25 => ?_)
      · refine v_iinc (j := 0) (L' := [(4, _), (0, _), (1, _), (2, _), (3, _)]) (v := nI (i + 1)) dX11_covers_30 rfl (nI_1 _) (Nat.le_of_ble_eq_true rfl) rfl ?_
        refine v_goto (tgt := 10) dX11_covers_33 (by decide) ?_
        refine v_sub (L' := [(4, _), (0, _), (1, _), (2, _), (3, _)]) [0, 1, 2, 3, 4] rfl ?_
        refine ih (i + 1) (by omega) (fun q hq => ?_)
        by_cases e : q = i
        · rw [e]
          rcases hw9 with ⟨e1, e2⟩ | ⟨e1, e2⟩
          · rw [e1] at c_25; exact absurd c_25 (by decide)
          · exact fun r => e2 ((hmt i (by omega)).mpr r)
        · exact hno q (by omega)
      · refine v_iconst (v := 1) dX11_covers_28 (by decide) ?_
        exact v_iret rfl dX11_covers_29 (Nat.le_of_ble_eq_true rfl) (Nat.le_of_ble_eq_true rfl) rfl ⟨rfl, ⟨1, rfl, Or.inl ⟨rfl, i, by omega, (hmt i (by omega)).mp ((hw9.resolve_right (fun q => c_25 q.1)).2)⟩⟩, ⟨f1, hf1⟩, hfr⟩

set_option maxHeartbeats 4000000 in
set_option maxRecDepth 100000 in
theorem c_covers (G : sv_G) (h : sv_h) (z b n : Nat) (la nl k : Nat) (rl : Int32) (lr : Nat → Int64) (wr f : Nat → Int64) (hw : h (b + 180) = some (.inr (9, [.ref (b + 181), .ref (b + 182), .int (nI n)]))) (hla : ab_late G h la nl lr) (hk : k < nl) (hl1 : b + 204 ≤ la) (hl2 : la < b + 216) (hf : ab_J G h (b + 182) 8 f) (rf : Nat → Int64) (hrf : ab_J G h (b + 181) 320 rf) (hwr : ∀ k, k < n → ∀ j, j < 8 → rf (8 * k + j) = wr (8 * k + j)) (hn : n ≤ 40) : CT G mX11_covers [.ref (b + 180), .int rl, .ref la, .int (nI k)] h z (fun v h1 z1 => z1 = z ∧ (∃ w : Int32, v = some (.int w) ∧ ((w = 1 ∧ ab_cv wr (ab_ds rl lr k) n) ∨ (w = 0 ∧ ¬ ab_cv wr (ab_ds rl lr k) n))) ∧ (∃ f1, ab_J G h1 (b + 182) 8 f1) ∧ ∀ a, a ≠ b + 182 → h1 a = h a) := by
  refine CT.of (by decide +kernel) rfl rfl (Nat.le_of_ble_eq_true rfl) ?_
  refine v_aload_n dX11_covers_0 rfl 0 rfl ?_
  refine v_iload_n dX11_covers_1 rfl 1 rfl ?_
  refine v_aload_n dX11_covers_2 rfl 2 rfl ?_
  refine v_iload_n dX11_covers_3 rfl 3 rfl ?_
  refine v_callV (M' := mX11_describe) (n := 3) (As := [_, _, _]) (ci := 9) (r := (RX11, TX11, 3)) gX11_covers_X11_describe rfl (by decide +kernel) ⟨(Nat.le_of_ble_eq_true rfl), (Nat.le_of_ble_eq_true rfl)⟩ rfl rfl dX11_covers_4 rfl ⟨(Nat.le_of_ble_eq_true rfl), (Nat.le_of_ble_eq_true rfl)⟩ (Nat.le_of_ble_eq_true rfl) (by repeat (first | (with_reducible refine sv_us.trans ?_; exact rfl) | with_reducible assumption | with_reducible refine (sv_un (by omega)).trans ?_)) rfl (c_describe G h z b n la nl k rl lr f hw hla hk hl1 hl2 hf) (fun v h1 z1 hq => ?_)
  obtain ⟨rfl, rfl, ⟨f1, hf1, hds⟩, hfr⟩ := hq
  refine v_iconst (v := 0) dX11_covers_7 (by decide) ?_
  refine v_istore (L' := [(4, _), (0, _), (1, _), (2, _), (3, _)]) dX11_covers_8 (Nat.le_of_ble_eq_true rfl) rfl ?_
  refine v_sub (L' := [(4, _), (0, _), (1, _), (2, _), (3, _)]) [0, 1, 2, 3, 4] rfl ?_
  exact l_covers G _ _ _ b n la k rl lr wr hw rf hrf hwr hn f1 hf1 hds hfr n 0 (by omega) (fun q hq => absurd hq (Nat.not_lt_zero q))

