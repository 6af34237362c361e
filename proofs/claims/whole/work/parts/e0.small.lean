section GU
variable {gu : Nat → Int64}
theorem iwX13_together_X13 : ∀ w ∈ wsX130, w ∈ wsX13_together := by decide +kernel
theorem iwX13_cellOn_X13 : ∀ w ∈ wsX130, w ∈ wsX13_cellOn := by decide +kernel
theorem iwX13_isOn_X13 : ∀ w ∈ wsX130, w ∈ wsX13_isOn := by decide +kernel
theorem dX13_together_0 : decode cX13_together 0 = .ok (.iconst 0, 1) := by decide +kernel
theorem dX13_together_1 : decode cX13_together 1 = .ok (.istore_n 3, 1) := by decide +kernel
theorem dX13_together_2 : decode cX13_together 2 = .ok (.iload_n 3, 1) := by decide +kernel
theorem dX13_together_3 : decode cX13_together 3 = .ok (.aload_n 0, 1) := by decide +kernel
theorem dX13_together_4 : decode cX13_together 4 = .ok (.getfield 89, 3) := by decide +kernel
theorem dX13_together_7 : decode cX13_together 7 = .ok (.iload_n 1, 1) := by decide +kernel
theorem dX13_together_8 : decode cX13_together 8 = .ok (.iaload, 1) := by decide +kernel
theorem dX13_together_9 : decode cX13_together 9 = .ok (.if_icmp .ge 44, 3) := by decide +kernel
theorem dX13_together_12 : decode cX13_together 12 = .ok (.iload_n 3, 1) := by decide +kernel
theorem dX13_together_13 : decode cX13_together 13 = .ok (.aload_n 0, 1) := by decide +kernel
theorem dX13_together_14 : decode cX13_together 14 = .ok (.getfield 89, 3) := by decide +kernel
theorem dX13_together_17 : decode cX13_together 17 = .ok (.iload_n 2, 1) := by decide +kernel
theorem dX13_together_18 : decode cX13_together 18 = .ok (.iaload, 1) := by decide +kernel
theorem dX13_together_19 : decode cX13_together 19 = .ok (.if_icmp .ge 34, 3) := by decide +kernel
theorem dX13_together_22 : decode cX13_together 22 = .ok (.aload_n 0, 1) := by decide +kernel
theorem dX13_together_23 : decode cX13_together 23 = .ok (.getfield 92, 3) := by decide +kernel
theorem dX13_together_26 : decode cX13_together 26 = .ok (.bipush 16, 2) := by decide +kernel
theorem dX13_together_28 : decode cX13_together 28 = .ok (.iload_n 1, 1) := by decide +kernel
theorem dX13_together_29 : decode cX13_together 29 = .ok (.imul, 1) := by decide +kernel
theorem dX13_together_30 : decode cX13_together 30 = .ok (.iload_n 3, 1) := by decide +kernel
theorem dX13_together_31 : decode cX13_together 31 = .ok (.iadd, 1) := by decide +kernel
theorem dX13_together_32 : decode cX13_together 32 = .ok (.iaload, 1) := by decide +kernel
theorem dX13_together_33 : decode cX13_together 33 = .ok (.aload_n 0, 1) := by decide +kernel
theorem dX13_together_34 : decode cX13_together 34 = .ok (.getfield 92, 3) := by decide +kernel
theorem dX13_together_37 : decode cX13_together 37 = .ok (.bipush 16, 2) := by decide +kernel
theorem dX13_together_39 : decode cX13_together 39 = .ok (.iload_n 2, 1) := by decide +kernel
theorem dX13_together_40 : decode cX13_together 40 = .ok (.imul, 1) := by decide +kernel
theorem dX13_together_41 : decode cX13_together 41 = .ok (.iload_n 3, 1) := by decide +kernel
theorem dX13_together_42 : decode cX13_together 42 = .ok (.iadd, 1) := by decide +kernel
theorem dX13_together_43 : decode cX13_together 43 = .ok (.iaload, 1) := by decide +kernel
theorem dX13_together_44 : decode cX13_together 44 = .ok (.if_icmp .ne 9, 3) := by decide +kernel
theorem dX13_together_47 : decode cX13_together 47 = .ok (.iinc 3 1, 3) := by decide +kernel
theorem dX13_together_50 : decode cX13_together 50 = .ok (.goto (-48), 3) := by decide +kernel
theorem dX13_together_53 : decode cX13_together 53 = .ok (.iload_n 3, 1) := by decide +kernel
theorem dX13_together_54 : decode cX13_together 54 = .ok (.ireturn, 1) := by decide +kernel
theorem dX13_cellOn_0 : decode cX13_cellOn 0 = .ok (.iload_n 3, 1) := by decide +kernel
theorem dX13_cellOn_1 : decode cX13_cellOn 1 = .ok (.ifCond .ne 7, 3) := by decide +kernel
theorem dX13_cellOn_4 : decode cX13_cellOn 4 = .ok (.iload_n 1, 1) := by decide +kernel
theorem dX13_cellOn_5 : decode cX13_cellOn 5 = .ok (.goto 21, 3) := by decide +kernel
theorem dX13_cellOn_8 : decode cX13_cellOn 8 = .ok (.aload_n 0, 1) := by decide +kernel
theorem dX13_cellOn_9 : decode cX13_cellOn 9 = .ok (.getfield 32, 3) := by decide +kernel
theorem dX13_cellOn_12 : decode cX13_cellOn 12 = .ok (.aload_n 0, 1) := by decide +kernel
theorem dX13_cellOn_13 : decode cX13_cellOn 13 = .ok (.getfield 92, 3) := by decide +kernel
theorem dX13_cellOn_16 : decode cX13_cellOn 16 = .ok (.bipush 16, 2) := by decide +kernel
theorem dX13_cellOn_18 : decode cX13_cellOn 18 = .ok (.iload_n 2, 1) := by decide +kernel
theorem dX13_cellOn_19 : decode cX13_cellOn 19 = .ok (.imul, 1) := by decide +kernel
theorem dX13_cellOn_20 : decode cX13_cellOn 20 = .ok (.iload_n 3, 1) := by decide +kernel
theorem dX13_cellOn_21 : decode cX13_cellOn 21 = .ok (.iadd, 1) := by decide +kernel
theorem dX13_cellOn_22 : decode cX13_cellOn 22 = .ok (.iconst 1, 1) := by decide +kernel
theorem dX13_cellOn_23 : decode cX13_cellOn 23 = .ok (.isub, 1) := by decide +kernel
theorem dX13_cellOn_24 : decode cX13_cellOn 24 = .ok (.iaload, 1) := by decide +kernel
theorem dX13_cellOn_25 : decode cX13_cellOn 25 = .ok (.iaload, 1) := by decide +kernel
theorem dX13_cellOn_26 : decode cX13_cellOn 26 = .ok (.ireturn, 1) := by decide +kernel
theorem dX13_isOn_0 : decode cX13_isOn 0 = .ok (.aload_n 0, 1) := by decide +kernel
theorem dX13_isOn_1 : decode cX13_isOn 1 = .ok (.getfield 13, 3) := by decide +kernel
theorem dX13_isOn_4 : decode cX13_isOn 4 = .ok (.aload_n 0, 1) := by decide +kernel
theorem dX13_isOn_5 : decode cX13_isOn 5 = .ok (.getfield 86, 3) := by decide +kernel
theorem dX13_isOn_8 : decode cX13_isOn 8 = .ok (.iload_n 1, 1) := by decide +kernel
theorem dX13_isOn_9 : decode cX13_isOn 9 = .ok (.iaload, 1) := by decide +kernel
theorem dX13_isOn_10 : decode cX13_isOn 10 = .ok (.iaload, 1) := by decide +kernel
theorem dX13_isOn_11 : decode cX13_isOn 11 = .ok (.iload_n 2, 1) := by decide +kernel
theorem dX13_isOn_12 : decode cX13_isOn 12 = .ok (.if_icmp .ne 7, 3) := by decide +kernel
theorem dX13_isOn_15 : decode cX13_isOn 15 = .ok (.iconst 1, 1) := by decide +kernel
theorem dX13_isOn_16 : decode cX13_isOn 16 = .ok (.goto 4, 3) := by decide +kernel
theorem dX13_isOn_19 : decode cX13_isOn 19 = .ok (.iconst 0, 1) := by decide +kernel
theorem dX13_isOn_20 : decode cX13_isOn 20 = .ok (.ireturn, 1) := by decide +kernel

abbrev mX13_together : sv_M := (cX13_together, 4, yX13_together, wsX13_together, (some .int), { frames := 2, cells := 0, slots := 0, locals := 60 }, [])
abbrev mX13_cellOn : sv_M := (cX13_cellOn, 4, yX13_cellOn, wsX13_cellOn, (some .int), { frames := 2, cells := 0, slots := 0, locals := 60 }, [])
abbrev mX13_isOn : sv_M := (cX13_isOn, 3, yX13_isOn, wsX13_isOn, (some .boolean), { frames := 2, cells := 0, slots := 0, locals := 60 }, [])
theorem nI_i {a c : Nat} (ha : a < 1000) (hc : c < 1000) (e : nI a = nI c) : a = c := by
  have q := congrArg Int32.toInt e
  rw [nI_toI (by omega), nI_toI (by omega)] at q
  omega
/-- so many places two ways have in common -/
def cpx : List Nat → List Nat → Nat
  | a :: s, c :: t => if a = c then cpx s t + 1 else 0
  | _, _ => 0
theorem cpx_nl (l : List Nat) : cpx [] l = 0 := by cases l <;> rfl
theorem cpx_nr (l : List Nat) : cpx l [] = 0 := by cases l <;> rfl
theorem cpx_le : ∀ (s t : List Nat), cpx s t ≤ s.length ∧ cpx s t ≤ t.length
  | [], t => by rw [cpx_nl]; exact ⟨Nat.zero_le _, Nat.zero_le _⟩
  | a :: s, [] => ⟨Nat.zero_le _, Nat.zero_le _⟩
  | a :: s, c :: t => by
    have := cpx_le s t
    show (if a = c then cpx s t + 1 else 0) ≤ s.length + 1 ∧ (if a = c then cpx s t + 1 else 0) ≤ t.length + 1
    split <;> omega
set_option maxHeartbeats 4000000 in
set_option maxRecDepth 100000 in
theorem l_tg (G : sv_G) (z b nc np pl : Nat) (hb : sv_h) (fs0 : List Value) (hq0 : mfq_ b nc np pl fs0) (hm9 : hb (b + 220) = some (.inr (11, fs0))) (O : List (List Nat × Nat)) (MO : moc_ G hb b O) (o : Nat) (ho : o < O.length) (u : Nat) (hu : u < O.length) (how : ∀ i, i ∈ (O.getD o ([], 0)).1 → i < 1000) (huw : ∀ i, i ∈ (O.getD u ([], 0)).1 → i < 1000) : ∀ (e k : Nat), k + e = (O.getD o ([], 0)).1.length → cpx (O.getD o ([], 0)).1 (O.getD u ([], 0)).1 = k + cpx ((O.getD o ([], 0)).1.drop k) ((O.getD u ([], 0)).1.drop k) → V G mX13_together (sv_MQ G mX13_together (fun v h1 z1 => v = some (.int (nI (cpx (O.getD o ([], 0)).1 (O.getD u ([], 0)).1))) ∧ h1 = hb ∧ z1 = z)) 2 [(3, .int (nI k)), (2, .int (nI u)), (1, .int (nI o)), (0, .ref (b + 220))] [] hb z 0 0 := by
  intro e
  induction e with
  | zero =>
    intro k hke hc
    have hlen : fs0.length = 71 := hq0.1
    obtain ⟨fp, fd, fw, o1, o2, o3, o4, o5⟩ := id MO
    obtain ⟨o6, o7, o8, o9⟩ := o5 o ho
    obtain ⟨s6, s7, s8, s9⟩ := o5 u hu
    have f_depth := hq0.f_depth
    have f_way := hq0.f_way
    have e9 : k = (O.getD o ([], 0)).1.length := by omega
    rw [List.drop_eq_nil_of_le (as := (O.getD o ([], 0)).1) (by omega), cpx_nl] at hc
    refine v_iload_n dX13_together_2 rfl 0 rfl ?_
    refine v_aload_n dX13_together_3 rfl 3 rfl ?_
    refine v_getf 38 (ci := 11) (C := RX13) (T := TX13) (N := 71) rfl iwX13_together_X13 (Nat.le_of_ble_eq_true rfl) (by decide +kernel) dX13_together_4 (by first | with_reducible assumption) (by repeat (first | with_reducible assumption | (with_reducible refine (sv_ls (by first | omega | (simp only [List.length_set]; omega))).trans ?_; exact rfl) | with_reducible refine (List.getElem?_set_ne (by decide)).trans ?_)) ?_
    refine v_iload_n dX13_together_7 rfl 2 rfl ?_
    refine v_ialdS (v := nI (O.getD o ([], 0)).1.length) dX13_together_8 (by first | with_reducible assumption) (vp_in_nI (by omega) (by omega)) (by rw [nI_clamp (by omega)]; exact o7) ?_
    refine v_icmp_ge (tgt := 53) dX13_together_9 (by decide) (fun c_9 => ?_) (fun c_9 => ?_)
    · refine v_iload_n dX13_together_53 rfl 0 rfl ?_
      exact v_iret rfl dX13_together_54 (Nat.le_of_ble_eq_true rfl) (Nat.le_of_ble_eq_true rfl) rfl ⟨by rw [hc]; rfl, rfl, rfl⟩
    · exact absurd (nI_le (show (O.getD o ([], 0)).1.length ≤ k by omega) (by omega)) c_9
  | succ e ih =>
    intro k hke hc
    have hlen : fs0.length = 71 := hq0.1
    obtain ⟨fp, fd, fw, o1, o2, o3, o4, o5⟩ := id MO
    obtain ⟨o6, o7, o8, o9⟩ := o5 o ho
    obtain ⟨s6, s7, s8, s9⟩ := o5 u hu
    have f_depth := hq0.f_depth
    have f_way := hq0.f_way
    have hk1 : k < (O.getD o ([], 0)).1.length := by omega
    have d1 := dr_c (A := (O.getD o ([], 0)).1) 0 hk1
    refine v_iload_n dX13_together_2 rfl 0 rfl ?_
    refine v_aload_n dX13_together_3 rfl 3 rfl ?_
    refine v_getf 38 (ci := 11) (C := RX13) (T := TX13) (N := 71) rfl iwX13_together_X13 (Nat.le_of_ble_eq_true rfl) (by decide +kernel) dX13_together_4 (by first | with_reducible assumption) (by repeat (first | with_reducible assumption | (with_reducible refine (sv_ls (by first | omega | (simp only [List.length_set]; omega))).trans ?_; exact rfl) | with_reducible refine (List.getElem?_set_ne (by decide)).trans ?_)) ?_
    refine v_iload_n dX13_together_7 rfl 2 rfl ?_
    refine v_ialdS (v := nI (O.getD o ([], 0)).1.length) dX13_together_8 (by first | with_reducible assumption) (vp_in_nI (by omega) (by omega)) (by rw [nI_clamp (by omega)]; exact o7) ?_
    refine v_icmp_ge (tgt := 53) dX13_together_9 (by decide) (fun c_9 => ?_) (fun c_9 => ?_)
    · exact absurd c_9 (nI_ge hk1 (by omega))
    · refine v_iload_n dX13_together_12 rfl 0 rfl ?_
      refine v_aload_n dX13_together_13 rfl 3 rfl ?_
      refine v_getf 38 (ci := 11) (C := RX13) (T := TX13) (N := 71) rfl iwX13_together_X13 (Nat.le_of_ble_eq_true rfl) (by decide +kernel) dX13_together_14 (by first | with_reducible assumption) (by repeat (first | with_reducible assumption | (with_reducible refine (sv_ls (by first | omega | (simp only [List.length_set]; omega))).trans ?_; exact rfl) | with_reducible refine (List.getElem?_set_ne (by decide)).trans ?_)) ?_
      refine v_iload_n dX13_together_17 rfl 1 rfl ?_
      refine v_ialdS (v := nI (O.getD u ([], 0)).1.length) dX13_together_18 (by first | with_reducible assumption) (vp_in_nI (by omega) (by omega)) (by rw [nI_clamp (by omega)]; exact s7) ?_
      refine v_icmp_ge (tgt := 53) dX13_together_19 (by decide) (fun c_19 => ?_) (fun c_19 => ?_)
      · refine v_iload_n dX13_together_53 rfl 0 rfl ?_
        exact v_iret rfl dX13_together_54 (Nat.le_of_ble_eq_true rfl) (Nat.le_of_ble_eq_true rfl) rfl (by
                  refine ⟨?_, rfl, rfl⟩
                  first
                    | (have e9 : ¬ (O.getD o ([], 0)).1.getD k 0 = (O.getD u ([], 0)).1.getD k 0 := fun e9 => c_44 (congrArg nI e9)
                       rw [hc, d1, d2, show cpx ((O.getD o ([], 0)).1.getD k 0 :: (O.getD o ([], 0)).1.drop (k + 1)) ((O.getD u ([], 0)).1.getD k 0 :: (O.getD u ([], 0)).1.drop (k + 1)) = 0 from if_neg e9]
                       rfl)
                    | (have e9 : (O.getD u ([], 0)).1.length ≤ k := Nat.le_of_not_lt (fun e9 => absurd c_19 (nI_ge e9 (by omega)))
                       rw [hc, List.drop_eq_nil_of_le (as := (O.getD u ([], 0)).1) e9, cpx_nr]
                       rfl))
      · have hk2 : k < (O.getD u ([], 0)).1.length := Nat.lt_of_not_le (fun e9 => c_19 (nI_le e9 (by omega)))
        have d2 := dr_c (A := (O.getD u ([], 0)).1) 0 hk2
        refine v_aload_n dX13_together_22 rfl 3 rfl ?_
        refine v_getf 39 (ci := 11) (C := RX13) (T := TX13) (N := 71) rfl iwX13_together_X13 (Nat.le_of_ble_eq_true rfl) (by decide +kernel) dX13_together_23 (by first | with_reducible assumption) (by repeat (first | with_reducible assumption | (with_reducible refine (sv_ls (by first | omega | (simp only [List.length_set]; omega))).trans ?_; exact rfl) | with_reducible refine (List.getElem?_set_ne (by decide)).trans ?_)) ?_
        refine v_bipush (v := 16) dX13_together_26 (by decide) ?_
        refine v_iload_n dX13_together_28 rfl 2 rfl ?_
        refine v_imul dX13_together_29 ?_
        refine v_iload_n dX13_together_30 rfl 0 rfl ?_
        refine v_iadd dX13_together_31 ?_
        rw [sv_16a]
        refine v_ialdS (v := nI ((O.getD o ([], 0)).1.getD k 0)) dX13_together_32 (by first | with_reducible assumption) (vp_in_nI (by omega) (by omega)) (by rw [nI_clamp (by omega)]; exact o9 k hk1) ?_
        refine v_aload_n dX13_together_33 rfl 3 rfl ?_
        refine v_getf 39 (ci := 11) (C := RX13) (T := TX13) (N := 71) rfl iwX13_together_X13 (Nat.le_of_ble_eq_true rfl) (by decide +kernel) dX13_together_34 (by first | with_reducible assumption) (by repeat (first | with_reducible assumption | (with_reducible refine (sv_ls (by first | omega | (simp only [List.length_set]; omega))).trans ?_; exact rfl) | with_reducible refine (List.getElem?_set_ne (by decide)).trans ?_)) ?_
        refine v_bipush (v := 16) dX13_together_37 (by decide) ?_
        refine v_iload_n dX13_together_39 rfl 1 rfl ?_
        refine v_imul dX13_together_40 ?_
        refine v_iload_n dX13_together_41 rfl 0 rfl ?_
        refine v_iadd dX13_together_42 ?_
        rw [sv_16a]
        refine v_ialdS (v := nI ((O.getD u ([], 0)).1.getD k 0)) dX13_together_43 (by first | with_reducible assumption) (vp_in_nI (by omega) (by omega)) (by rw [nI_clamp (by omega)]; exact s9 k hk2) ?_
        refine v_icmp_ne (tgt := 53) dX13_together_44 (by decide) (fun c_44 => ?_) (fun c_44 => ?_)
        · refine v_iload_n dX13_together_53 rfl 0 rfl ?_
          exact v_iret rfl dX13_together_54 (Nat.le_of_ble_eq_true rfl) (Nat.le_of_ble_eq_true rfl) rfl (by
                    refine ⟨?_, rfl, rfl⟩
                    first
                      | (have e9 : ¬ (O.getD o ([], 0)).1.getD k 0 = (O.getD u ([], 0)).1.getD k 0 := fun e9 => c_44 (congrArg nI e9)
                         rw [hc, d1, d2, show cpx ((O.getD o ([], 0)).1.getD k 0 :: (O.getD o ([], 0)).1.drop (k + 1)) ((O.getD u ([], 0)).1.getD k 0 :: (O.getD u ([], 0)).1.drop (k + 1)) = 0 from if_neg e9]
                         rfl)
                      | (have e9 : (O.getD u ([], 0)).1.length ≤ k := Nat.le_of_not_lt (fun e9 => absurd c_19 (nI_ge e9 (by omega)))
                         rw [hc, List.drop_eq_nil_of_le (as := (O.getD u ([], 0)).1) e9, cpx_nr]
                         rfl))
        · refine v_iinc (j := 0) (L' := [(3, _), (2, _), (1, _), (0, _)]) (v := nI (k + 1)) dX13_together_47 rfl (nI_1 _) (Nat.le_of_ble_eq_true rfl) rfl ?_
          refine v_goto (tgt := 2) dX13_together_50 (by decide) ?_
          refine v_sub (L' := [(3, _), (2, _), (1, _), (0, _)]) [0, 1, 2, 3] rfl ?_
          have e9 : (O.getD o ([], 0)).1.getD k 0 = (O.getD u ([], 0)).1.getD k 0 := nI_i (how _ (getD_mem 0 hk1)) (huw _ (getD_mem 0 hk2)) c_44
          refine ih (k + 1) (by omega) ?_
          rw [hc, d1, d2, show cpx ((O.getD o ([], 0)).1.getD k 0 :: (O.getD o ([], 0)).1.drop (k + 1)) ((O.getD u ([], 0)).1.getD k 0 :: (O.getD u ([], 0)).1.drop (k + 1)) = cpx ((O.getD o ([], 0)).1.drop (k + 1)) ((O.getD u ([], 0)).1.drop (k + 1)) + 1 from if_pos e9]
          omega

set_option maxHeartbeats 4000000 in
set_option maxRecDepth 100000 in
theorem m_together (G : sv_G) (z b nc np pl : Nat) (hb : sv_h) (fs0 : List Value) (hq0 : mfq_ b nc np pl fs0) (hm9 : hb (b + 220) = some (.inr (11, fs0))) (O : List (List Nat × Nat)) (MO : moc_ G hb b O) (o : Nat) (ho : o < O.length) (u : Nat) (hu : u < O.length) (how : ∀ i, i ∈ (O.getD o ([], 0)).1 → i < 1000) (huw : ∀ i, i ∈ (O.getD u ([], 0)).1 → i < 1000) : CT G mX13_together [.ref (b + 220), .int (nI o), .int (nI u)] hb z (fun v h1 z1 => v = some (.int (nI (cpx (O.getD o ([], 0)).1 (O.getD u ([], 0)).1))) ∧ h1 = hb ∧ z1 = z) := by
  refine CT.of (by decide +kernel) rfl rfl (Nat.le_of_ble_eq_true rfl) ?_
  refine v_iconst (v := 0) dX13_together_0 (by decide) ?_
  refine v_istore_n (L' := [(3, _), (0, _), (1, _), (2, _)]) dX13_together_1 rfl (Nat.le_of_ble_eq_true rfl) rfl ?_
  refine v_sub (L' := [(3, _), (2, _), (1, _), (0, _)]) [0, 3, 2, 1] rfl ?_
  exact l_tg G _ b nc np pl hb fs0 hq0 hm9 O MO o ho u hu how huw (O.getD o ([], 0)).1.length 0 (Nat.zero_add _) (by rw [List.drop_zero, List.drop_zero, Nat.zero_add])

set_option maxHeartbeats 4000000 in
set_option maxRecDepth 100000 in
theorem m_cellOn (G : sv_G) (z b nc np pl : Nat) (hb : sv_h) (fs0 : List Value) (hq0 : mfq_ b nc np pl fs0) (hm9 : hb (b + 220) = some (.inr (11, fs0))) (O : List (List Nat × Nat)) (MO : moc_ G hb b O) (o : Nat) (ho : o < O.length) (R : Nat → Bool) (hm p3 p4 sz : Nat → Nat) (ly vo : Nat → Int32) (mp : Nat → mvT) (X Y : Nat → Nat → Int) (MY : myl_ G hb b nc np pl R hm p3 p4 sz ly vo mp X Y) (how : ∀ i, i ∈ (O.getD o ([], 0)).1 → i < pl) (top at_ : Nat) (hat : at_ ≤ (O.getD o ([], 0)).1.length) : CT G mX13_cellOn [.ref (b + 220), .int (nI top), .int (nI o), .int (nI at_)] hb z (fun v h1 z1 => v = some (.int (nI (if at_ = 0 then top else p4 ((O.getD o ([], 0)).1.getD (at_ - 1) 0)))) ∧ h1 = hb ∧ z1 = z) := by
  refine CT.of (by decide +kernel) rfl rfl (Nat.le_of_ble_eq_true rfl) ?_
  have hlen : fs0.length = 71 := hq0.1
  obtain ⟨fp, fd, fw, o1, o2, o3, o4, o5⟩ := id MO
  obtain ⟨o6, o7, o8, o9⟩ := o5 o ho
  obtain ⟨_, _, _, _, _, _, _, ⟨g7, y7, y7a⟩, _, _, _, yB, yC, yD, yE, yF⟩ := id MY
  have f_way := hq0.f_way
  have f_placeOf := hq0.f_placeOf
  refine v_iload_n dX13_cellOn_0 rfl 3 rfl ?_
  refine v_if_ne (tgt := 8) dX13_cellOn_1 (by decide) (fun c_1 => ?_) (fun c_1 => ?_)
  · have h0 : ¬ at_ = 0 := fun e9 => c_1 (by rw [e9]; rfl)
    have hin : (O.getD o ([], 0)).1.getD (at_ - 1) 0 < pl := how _ (getD_mem 0 (by omega))
    refine v_aload_n dX13_cellOn_8 rfl 0 rfl ?_
    refine v_getf 12 (ci := 11) (C := RX13) (T := TX13) (N := 71) rfl iwX13_cellOn_X13 (Nat.le_of_ble_eq_true rfl) (by decide +kernel) dX13_cellOn_9 (by first | with_reducible assumption) (by repeat (first | with_reducible assumption | (with_reducible refine (sv_ls (by first | omega | (simp only [List.length_set]; omega))).trans ?_; exact rfl) | with_reducible refine (List.getElem?_set_ne (by decide)).trans ?_)) ?_
    refine v_aload_n dX13_cellOn_12 rfl 0 rfl ?_
    refine v_getf 39 (ci := 11) (C := RX13) (T := TX13) (N := 71) rfl iwX13_cellOn_X13 (Nat.le_of_ble_eq_true rfl) (by decide +kernel) dX13_cellOn_13 (by first | with_reducible assumption) (by repeat (first | with_reducible assumption | (with_reducible refine (sv_ls (by first | omega | (simp only [List.length_set]; omega))).trans ?_; exact rfl) | with_reducible refine (List.getElem?_set_ne (by decide)).trans ?_)) ?_
    refine v_bipush (v := 16) dX13_cellOn_16 (by decide) ?_
    refine v_iload_n dX13_cellOn_18 rfl 2 rfl ?_
    refine v_imul dX13_cellOn_19 ?_
    refine v_iload_n dX13_cellOn_20 rfl 3 rfl ?_
    refine v_iadd dX13_cellOn_21 ?_
    refine v_iconst (v := 1) dX13_cellOn_22 (by decide) ?_
    refine v_isub dX13_cellOn_23 ?_
    rw [sv_16a, show nI (16 * o + at_) - 1 = nI (16 * o + (at_ - 1)) from by rw [show 16 * o + at_ = (16 * o + (at_ - 1)) + 1 by omega, nI_s1]]
    refine v_ialdS (v := nI ((O.getD o ([], 0)).1.getD (at_ - 1) 0)) dX13_cellOn_24 (by first | with_reducible assumption) (vp_in_nI (by omega) (by omega)) (by rw [nI_clamp (by omega)]; exact o9 _ (by omega)) ?_
    refine v_ialdS (v := nI (p4 ((O.getD o ([], 0)).1.getD (at_ - 1) 0))) dX13_cellOn_25 (by first | with_reducible assumption) (vp_in_nI (by omega) (by omega)) (by rw [nI_clamp (by omega)]; exact y7a _ hin) ?_
    exact v_iret rfl dX13_cellOn_26 (Nat.le_of_ble_eq_true rfl) (Nat.le_of_ble_eq_true rfl) rfl (by
          refine ⟨?_, rfl, rfl⟩
          first
            | rw [if_neg h0]
            | rw [if_pos (nI_i (c := 0) (by omega) (by omega) c_1)])
  · refine v_iload_n dX13_cellOn_4 rfl 1 rfl ?_
    refine v_goto (tgt := 26) dX13_cellOn_5 (by decide) ?_
    exact v_iret rfl dX13_cellOn_26 (Nat.le_of_ble_eq_true rfl) (Nat.le_of_ble_eq_true rfl) rfl (by
          refine ⟨?_, rfl, rfl⟩
          first
            | rw [if_neg h0]
            | rw [if_pos (nI_i (c := 0) (by omega) (by omega) c_1)])

set_option maxHeartbeats 4000000 in
set_option maxRecDepth 100000 in
theorem m_isOn (G : sv_G) (z b nc np pl : Nat) (hb : sv_h) (fs0 : List Value) (hq0 : mfq_ b nc np pl fs0) (hm9 : hb (b + 220) = some (.inr (11, fs0))) (O : List (List Nat × Nat)) (MO : moc_ G hb b O) (o : Nat) (ho : o < O.length) (R : Nat → Bool) (hm p3 p4 sz : Nat → Nat) (ly vo : Nat → Int32) (mp : Nat → mvT) (X Y : Nat → Nat → Int) (MY : myl_ G hb b nc np pl R hm p3 p4 sz ly vo mp X Y) (hop : (O.getD o ([], 0)).2 < np) (l : Int32) : CT G mX13_isOn [.ref (b + 220), .int (nI o), .int l] hb z (fun v h1 z1 => v = some (.int (if ly (O.getD o ([], 0)).2 = l then 1 else 0)) ∧ h1 = hb ∧ z1 = z) := by
  refine CT.of (by decide +kernel) rfl rfl (Nat.le_of_ble_eq_true rfl) ?_
  have hlen : fs0.length = 71 := hq0.1
  obtain ⟨fp, fd, fw, o1, o2, o3, o4, o5⟩ := id MO
  obtain ⟨o6, o7, o8, o9⟩ := o5 o ho
  obtain ⟨_, ⟨g1_, y1, y1a⟩, _, _, _, _, _, _, _, _, _, yB, yC, yD, yE, yF⟩ := id MY
  have f_layer := hq0.f_layer
  have f_polygon := hq0.f_polygon
  refine v_aload_n dX13_isOn_0 rfl 0 rfl ?_
  refine v_getf 5 (ci := 11) (C := RX13) (T := TX13) (N := 71) rfl iwX13_isOn_X13 (Nat.le_of_ble_eq_true rfl) (by decide +kernel) dX13_isOn_1 (by first | with_reducible assumption) (by repeat (first | with_reducible assumption | (with_reducible refine (sv_ls (by first | omega | (simp only [List.length_set]; omega))).trans ?_; exact rfl) | with_reducible refine (List.getElem?_set_ne (by decide)).trans ?_)) ?_
  refine v_aload_n dX13_isOn_4 rfl 0 rfl ?_
  refine v_getf 37 (ci := 11) (C := RX13) (T := TX13) (N := 71) rfl iwX13_isOn_X13 (Nat.le_of_ble_eq_true rfl) (by decide +kernel) dX13_isOn_5 (by first | with_reducible assumption) (by repeat (first | with_reducible assumption | (with_reducible refine (sv_ls (by first | omega | (simp only [List.length_set]; omega))).trans ?_; exact rfl) | with_reducible refine (List.getElem?_set_ne (by decide)).trans ?_)) ?_
  refine v_iload_n dX13_isOn_8 rfl 1 rfl ?_
  refine v_ialdS (v := nI (O.getD o ([], 0)).2) dX13_isOn_9 (by first | with_reducible assumption) (vp_in_nI (by omega) (by omega)) (by rw [nI_clamp (by omega)]; exact o6) ?_
  refine v_ialdS (v := ly (O.getD o ([], 0)).2) dX13_isOn_10 (by first | with_reducible assumption) (vp_in_nI (by omega) (by omega)) (by rw [nI_clamp (by omega)]; exact y1a _ hop) ?_
  refine v_iload_n dX13_isOn_11 rfl 2 rfl ?_
  refine v_icmp_ne (tgt := 19) dX13_isOn_12 (by decide) (fun c_12 => ?_) (fun c_12 => ?_)
  · refine v_iconst (v := 0) dX13_isOn_19 (by decide) ?_
    exact v_iret rfl dX13_isOn_20 (Nat.le_of_ble_eq_true rfl) (Nat.le_of_ble_eq_true rfl) rfl (by
          refine ⟨?_, rfl, rfl⟩
          first
            | rw [if_neg c_12]
            | rw [if_pos c_12])
  · refine v_iconst (v := 1) dX13_isOn_15 (by decide) ?_
    refine v_goto (tgt := 20) dX13_isOn_16 (by decide) ?_
    exact v_iret rfl dX13_isOn_20 (Nat.le_of_ble_eq_true rfl) (Nat.le_of_ble_eq_true rfl) rfl (by
          refine ⟨?_, rfl, rfl⟩
          first
            | rw [if_neg c_12]
            | rw [if_pos c_12])

end GU
