theorem iwX10_behindAlike_X10 : ∀ w ∈ wsX100, w ∈ wsX10_behindAlike := by decide +kernel
theorem iwX10_hasSameAs_X10 : ∀ w ∈ wsX100, w ∈ wsX10_hasSameAs := by decide +kernel
set_option maxRecDepth 20000 in
theorem ggX10_hasSameAs_X10_isAlike : GoodIn wsX10_hasSameAs wsX10_isAlike := goodIn_r _ [6, 7, 8, 9, 5, 10, 11, 12, 17, 18, 19, 20, 21, 22, 23] (by decide +kernel) (by decide +kernel)
set_option maxRecDepth 20000 in
theorem gX10_hasSameAs_X10_isAlike : GoodIn wsX10_hasSameAs (wsV RX10 78 RX10 yX10_isAlike wsX10_isAlike) := goodIn_app (goodIn_of _ (by decide +kernel)) ggX10_hasSameAs_X10_isAlike
set_option maxRecDepth 20000 in
theorem ggX10_hasSameAs_X10_behindAlike : GoodIn wsX10_hasSameAs wsX10_behindAlike := goodIn_r _ [16, 1, 2, 3, 4, 5, 6, 7, 8, 9, 10, 11, 12, 17, 18, 19, 20, 21, 22, 23] (by decide +kernel) (by decide +kernel)
set_option maxRecDepth 20000 in
theorem gX10_hasSameAs_X10_behindAlike : GoodIn wsX10_hasSameAs (wsV RX10 82 RX10 yX10_behindAlike wsX10_behindAlike) := goodIn_app (goodIn_of _ (by decide +kernel)) ggX10_hasSameAs_X10_behindAlike
theorem dX10_hasSameAs_0 : decode cX10_hasSameAs 0 = .ok (.iconst 0, 1) := by decide +kernel
theorem dX10_hasSameAs_1 : decode cX10_hasSameAs 1 = .ok (.istore_n 2, 1) := by decide +kernel
theorem dX10_hasSameAs_2 : decode cX10_hasSameAs 2 = .ok (.iconst 0, 1) := by decide +kernel
theorem dX10_hasSameAs_3 : decode cX10_hasSameAs 3 = .ok (.istore_n 3, 1) := by decide +kernel
theorem dX10_hasSameAs_4 : decode cX10_hasSameAs 4 = .ok (.iconst 0, 1) := by decide +kernel
theorem dX10_hasSameAs_5 : decode cX10_hasSameAs 5 = .ok (.istore 4, 2) := by decide +kernel
theorem dX10_hasSameAs_7 : decode cX10_hasSameAs 7 = .ok (.iload 4, 2) := by decide +kernel
theorem dX10_hasSameAs_9 : decode cX10_hasSameAs 9 = .ok (.sipush 1500, 3) := by decide +kernel
theorem dX10_hasSameAs_12 : decode cX10_hasSameAs 12 = .ok (.if_icmp .ge 49, 3) := by decide +kernel
theorem dX10_hasSameAs_15 : decode cX10_hasSameAs 15 = .ok (.iload_n 2, 1) := by decide +kernel
theorem dX10_hasSameAs_16 : decode cX10_hasSameAs 16 = .ok (.aload_n 0, 1) := by decide +kernel
theorem dX10_hasSameAs_17 : decode cX10_hasSameAs 17 = .ok (.getfield 24, 3) := by decide +kernel
theorem dX10_hasSameAs_20 : decode cX10_hasSameAs 20 = .ok (.if_icmp .ge 41, 3) := by decide +kernel
theorem dX10_hasSameAs_23 : decode cX10_hasSameAs 23 = .ok (.iload_n 3, 1) := by decide +kernel
theorem dX10_hasSameAs_24 : decode cX10_hasSameAs 24 = .ok (.aload_n 1, 1) := by decide +kernel
theorem dX10_hasSameAs_25 : decode cX10_hasSameAs 25 = .ok (.getfield 24, 3) := by decide +kernel
theorem dX10_hasSameAs_28 : decode cX10_hasSameAs 28 = .ok (.if_icmp .ge 33, 3) := by decide +kernel
theorem dX10_hasSameAs_31 : decode cX10_hasSameAs 31 = .ok (.aload_n 0, 1) := by decide +kernel
theorem dX10_hasSameAs_32 : decode cX10_hasSameAs 32 = .ok (.iload_n 2, 1) := by decide +kernel
theorem dX10_hasSameAs_33 : decode cX10_hasSameAs 33 = .ok (.aload_n 1, 1) := by decide +kernel
theorem dX10_hasSameAs_34 : decode cX10_hasSameAs 34 = .ok (.iload_n 3, 1) := by decide +kernel
theorem dX10_hasSameAs_35 : decode cX10_hasSameAs 35 = .ok (.invokevirtual 78, 3) := by decide +kernel
theorem dX10_hasSameAs_38 : decode cX10_hasSameAs 38 = .ok (.ifCond .ne 5, 3) := by decide +kernel
theorem dX10_hasSameAs_43 : decode cX10_hasSameAs 43 = .ok (.aload_n 0, 1) := by decide +kernel
theorem dX10_hasSameAs_44 : decode cX10_hasSameAs 44 = .ok (.iload_n 2, 1) := by decide +kernel
theorem dX10_hasSameAs_45 : decode cX10_hasSameAs 45 = .ok (.invokevirtual 82, 3) := by decide +kernel
theorem dX10_hasSameAs_48 : decode cX10_hasSameAs 48 = .ok (.istore_n 2, 1) := by decide +kernel
theorem dX10_hasSameAs_49 : decode cX10_hasSameAs 49 = .ok (.aload_n 1, 1) := by decide +kernel
theorem dX10_hasSameAs_50 : decode cX10_hasSameAs 50 = .ok (.iload_n 3, 1) := by decide +kernel
theorem dX10_hasSameAs_51 : decode cX10_hasSameAs 51 = .ok (.invokevirtual 82, 3) := by decide +kernel
theorem dX10_hasSameAs_54 : decode cX10_hasSameAs 54 = .ok (.istore_n 3, 1) := by decide +kernel
theorem dX10_hasSameAs_55 : decode cX10_hasSameAs 55 = .ok (.iinc 4 1, 3) := by decide +kernel
theorem dX10_hasSameAs_58 : decode cX10_hasSameAs 58 = .ok (.goto (-51), 3) := by decide +kernel
theorem dX10_hasSameAs_61 : decode cX10_hasSameAs 61 = .ok (.iload_n 2, 1) := by decide +kernel
theorem dX10_hasSameAs_62 : decode cX10_hasSameAs 62 = .ok (.aload_n 0, 1) := by decide +kernel
theorem dX10_hasSameAs_63 : decode cX10_hasSameAs 63 = .ok (.getfield 24, 3) := by decide +kernel
theorem dX10_hasSameAs_66 : decode cX10_hasSameAs 66 = .ok (.if_icmp .ne 15, 3) := by decide +kernel
theorem dX10_hasSameAs_69 : decode cX10_hasSameAs 69 = .ok (.iload_n 3, 1) := by decide +kernel
theorem dX10_hasSameAs_70 : decode cX10_hasSameAs 70 = .ok (.aload_n 1, 1) := by decide +kernel
theorem dX10_hasSameAs_71 : decode cX10_hasSameAs 71 = .ok (.getfield 24, 3) := by decide +kernel
theorem dX10_hasSameAs_74 : decode cX10_hasSameAs 74 = .ok (.if_icmp .ne 7, 3) := by decide +kernel
theorem dX10_hasSameAs_77 : decode cX10_hasSameAs 77 = .ok (.iconst 1, 1) := by decide +kernel
theorem dX10_hasSameAs_78 : decode cX10_hasSameAs 78 = .ok (.goto 4, 3) := by decide +kernel
theorem dX10_hasSameAs_81 : decode cX10_hasSameAs 81 = .ok (.iconst 0, 1) := by decide +kernel
theorem dX10_hasSameAs_82 : decode cX10_hasSameAs 82 = .ok (.ireturn, 1) := by decide +kernel
set_option maxRecDepth 20000 in
theorem ggX10_behindAlike_X10_isAlike : GoodIn wsX10_behindAlike wsX10_isAlike := goodIn_r _ [6, 7, 8, 9, 5, 10, 11, 12, 13, 14, 15, 16, 17, 18, 19] (by decide +kernel) (by decide +kernel)
set_option maxRecDepth 20000 in
theorem gX10_behindAlike_X10_isAlike : GoodIn wsX10_behindAlike (wsV RX10 78 RX10 yX10_isAlike wsX10_isAlike) := goodIn_app (goodIn_of _ (by decide +kernel)) ggX10_behindAlike_X10_isAlike
theorem dX10_behindAlike_0 : decode cX10_behindAlike 0 = .ok (.iload_n 1, 1) := by decide +kernel
theorem dX10_behindAlike_1 : decode cX10_behindAlike 1 = .ok (.iconst 1, 1) := by decide +kernel
theorem dX10_behindAlike_2 : decode cX10_behindAlike 2 = .ok (.iadd, 1) := by decide +kernel
theorem dX10_behindAlike_3 : decode cX10_behindAlike 3 = .ok (.istore_n 2, 1) := by decide +kernel
theorem dX10_behindAlike_4 : decode cX10_behindAlike 4 = .ok (.iload_n 2, 1) := by decide +kernel
theorem dX10_behindAlike_5 : decode cX10_behindAlike 5 = .ok (.aload_n 0, 1) := by decide +kernel
theorem dX10_behindAlike_6 : decode cX10_behindAlike 6 = .ok (.getfield 24, 3) := by decide +kernel
theorem dX10_behindAlike_9 : decode cX10_behindAlike 9 = .ok (.if_icmp .ge 19, 3) := by decide +kernel
theorem dX10_behindAlike_12 : decode cX10_behindAlike 12 = .ok (.aload_n 0, 1) := by decide +kernel
theorem dX10_behindAlike_13 : decode cX10_behindAlike 13 = .ok (.iload_n 1, 1) := by decide +kernel
theorem dX10_behindAlike_14 : decode cX10_behindAlike 14 = .ok (.aload_n 0, 1) := by decide +kernel
theorem dX10_behindAlike_15 : decode cX10_behindAlike 15 = .ok (.iload_n 2, 1) := by decide +kernel
theorem dX10_behindAlike_16 : decode cX10_behindAlike 16 = .ok (.invokevirtual 78, 3) := by decide +kernel
theorem dX10_behindAlike_19 : decode cX10_behindAlike 19 = .ok (.ifCond .eq 9, 3) := by decide +kernel
theorem dX10_behindAlike_22 : decode cX10_behindAlike 22 = .ok (.iinc 2 1, 3) := by decide +kernel
theorem dX10_behindAlike_25 : decode cX10_behindAlike 25 = .ok (.goto (-21), 3) := by decide +kernel
theorem dX10_behindAlike_28 : decode cX10_behindAlike 28 = .ok (.iload_n 2, 1) := by decide +kernel
theorem dX10_behindAlike_29 : decode cX10_behindAlike 29 = .ok (.ireturn, 1) := by decide +kernel
set_option maxRecDepth 20000 in
theorem ggX10_isAlike_X10_value : GoodIn wsX10_isAlike wsX10_value := goodIn_r _ [5, 6, 7, 8, 9, 10, 11, 12, 13, 14] (by decide +kernel) (by decide +kernel)
set_option maxRecDepth 20000 in
theorem gX10_isAlike_X10_value : GoodIn wsX10_isAlike (wsV RX10 40 RX10 yX10_value wsX10_value) := goodIn_app (goodIn_of _ (by decide +kernel)) ggX10_isAlike_X10_value
theorem dX10_isAlike_0 : decode cX10_isAlike 0 = .ok (.iconst 0, 1) := by decide +kernel
theorem dX10_isAlike_1 : decode cX10_isAlike 1 = .ok (.istore 4, 2) := by decide +kernel
theorem dX10_isAlike_3 : decode cX10_isAlike 3 = .ok (.iload 4, 2) := by decide +kernel
theorem dX10_isAlike_5 : decode cX10_isAlike 5 = .ok (.bipush 6, 2) := by decide +kernel
theorem dX10_isAlike_7 : decode cX10_isAlike 7 = .ok (.if_icmp .gt 29, 3) := by decide +kernel
theorem dX10_isAlike_10 : decode cX10_isAlike 10 = .ok (.aload_n 0, 1) := by decide +kernel
theorem dX10_isAlike_11 : decode cX10_isAlike 11 = .ok (.iload_n 1, 1) := by decide +kernel
theorem dX10_isAlike_12 : decode cX10_isAlike 12 = .ok (.iload 4, 2) := by decide +kernel
theorem dX10_isAlike_14 : decode cX10_isAlike 14 = .ok (.invokevirtual 40, 3) := by decide +kernel
theorem dX10_isAlike_17 : decode cX10_isAlike 17 = .ok (.aload_n 2, 1) := by decide +kernel
theorem dX10_isAlike_18 : decode cX10_isAlike 18 = .ok (.iload_n 3, 1) := by decide +kernel
theorem dX10_isAlike_19 : decode cX10_isAlike 19 = .ok (.iload 4, 2) := by decide +kernel
theorem dX10_isAlike_21 : decode cX10_isAlike 21 = .ok (.invokevirtual 40, 3) := by decide +kernel
theorem dX10_isAlike_24 : decode cX10_isAlike 24 = .ok (.lcmp, 1) := by decide +kernel
theorem dX10_isAlike_25 : decode cX10_isAlike 25 = .ok (.ifCond .eq 5, 3) := by decide +kernel
theorem dX10_isAlike_28 : decode cX10_isAlike 28 = .ok (.iconst 0, 1) := by decide +kernel
theorem dX10_isAlike_29 : decode cX10_isAlike 29 = .ok (.ireturn, 1) := by decide +kernel
theorem dX10_isAlike_30 : decode cX10_isAlike 30 = .ok (.iinc 4 1, 3) := by decide +kernel
theorem dX10_isAlike_33 : decode cX10_isAlike 33 = .ok (.goto (-30), 3) := by decide +kernel
theorem dX10_isAlike_36 : decode cX10_isAlike 36 = .ok (.iconst 1, 1) := by decide +kernel
theorem dX10_isAlike_37 : decode cX10_isAlike 37 = .ok (.ireturn, 1) := by decide +kernel

abbrev mX10_isAlike : sv_M := (cX10_isAlike, 5, yX10_isAlike, wsX10_isAlike, (some .boolean), { frames := 2, cells := 0, slots := 0, locals := 60 }, [])
abbrev mX10_behindAlike : sv_M := (cX10_behindAlike, 3, yX10_behindAlike, wsX10_behindAlike, (some .int), { frames := 4, cells := 0, slots := 0, locals := 100 }, [])
abbrev mX10_hasSameAs : sv_M := (cX10_hasSameAs, 5, yX10_hasSameAs, wsX10_hasSameAs, (some .boolean), { frames := 6, cells := 0, slots := 0, locals := 150 }, [])
/-- alike in the first seven columns -/
abbrev al7 (r s : List Int64) : Prop := ∀ j, j < 7 → r.getD j 0 = s.getD j 0
theorem al7.sy9 {r s : List Int64} (h : al7 r s) : al7 s r := fun j hj => (h j hj).symm
theorem al7.tr9 {r s u : List Int64} (h : al7 r s) (k : al7 s u) : al7 r u := fun j hj => (h j hj).trans (k j hj)
set_option maxHeartbeats 4000000 in
set_option maxRecDepth 100000 in
theorem l_al (G : sv_G) (h : sv_h) (z t u : Nat) (L K : List (List Int64)) (H : tO G h t L) (H2 : tO G h u K) (i j : Nat) (hi : i < L.length) (hj : j < K.length) : ∀ (e c : Nat), c + e = 7 → (∀ d, d < c → (L.getD i []).getD d 0 = (K.getD j []).getD d 0) → V G mX10_isAlike (sv_MQ G mX10_isAlike (fun v h1 z1 => v = some (.int (if al7 (L.getD i []) (K.getD j []) then 1 else 0)) ∧ h1 = h ∧ z1 = z)) 3 [(4, .int (nI c)), (3, .int (nI j)), (2, .ref u), (1, .int (nI i)), (0, .ref t)] [] h z 0 0 := by
  obtain ⟨_, ax, aus, aov, ahm, aod, aw, _, a2, _⟩ := H.ob
  obtain ⟨_, bx, bus, bov, bhm, bod, bw, _, b2, _⟩ := H2.ob
  intro e
  induction e with
  | zero =>
    intro c hce hal
    have e9 : c = 7 := by omega
    subst e9
    refine v_iload dX10_isAlike_3 0 rfl ?_
    refine v_bipush (v := 6) dX10_isAlike_5 (by decide) ?_
    refine v_icmp_gt (tgt := 36) dX10_isAlike_7 (by decide) (fun c_7 => ?_) (fun c_7 => ?_)
    · refine v_iconst (v := 1) dX10_isAlike_36 (by decide) ?_
      exact v_iret rfl dX10_isAlike_37 (Nat.le_of_ble_eq_true rfl) (Nat.le_of_ble_eq_true rfl) rfl (by rw [if_pos (show al7 (L.getD i []) (K.getD j []) from hal)]; exact ⟨rfl, rfl, rfl⟩)
    · exact absurd (by decide) c_7
  | succ e ih =>
    intro c hce hal
    have hc : c < 7 := by omega
    refine v_iload dX10_isAlike_3 0 rfl ?_
    refine v_bipush (v := 6) dX10_isAlike_5 (by decide) ?_
    refine v_icmp_gt (tgt := 36) dX10_isAlike_7 (by decide) (fun c_7 => ?_) (fun c_7 => ?_)
    · exact absurd c_7 (Int32.not_lt.mpr (show nI c ≤ nI 6 from nI_le (by omega) (by omega)))
    · refine v_aload_n dX10_isAlike_10 rfl 4 rfl ?_
      refine v_iload_n dX10_isAlike_11 rfl 3 rfl ?_
      refine v_iload dX10_isAlike_12 0 rfl ?_
      refine v_callVq (M' := mX10_value) (n := 2) (As := [_, _]) (ci := 8) (r := (RX10, TX10, 7)) gX10_isAlike_X10_value rfl (by decide +kernel) ⟨(Nat.le_of_ble_eq_true rfl), (Nat.le_of_ble_eq_true rfl)⟩ rfl rfl dX10_isAlike_14 rfl ⟨(Nat.le_of_ble_eq_true rfl), (Nat.le_of_ble_eq_true rfl)⟩ (Nat.le_of_ble_eq_true rfl) (by first | with_reducible assumption) rfl (c_tOv G _ _ t L H i c hi (by omega) rfl) (fun v9 h9 y9 hq => v_pq hq ?_)
      refine v_aload_n dX10_isAlike_17 rfl 2 rfl ?_
      refine v_iload_n dX10_isAlike_18 rfl 1 rfl ?_
      refine v_iload dX10_isAlike_19 0 rfl ?_
      refine v_callVq (M' := mX10_value) (n := 2) (As := [_, _]) (ci := 8) (r := (RX10, TX10, 7)) gX10_isAlike_X10_value rfl (by decide +kernel) ⟨(Nat.le_of_ble_eq_true rfl), (Nat.le_of_ble_eq_true rfl)⟩ rfl rfl dX10_isAlike_21 rfl ⟨(Nat.le_of_ble_eq_true rfl), (Nat.le_of_ble_eq_true rfl)⟩ (Nat.le_of_ble_eq_true rfl) (by first | with_reducible assumption) rfl (c_tOv G _ _ u K H2 j c hj (by omega) rfl) (fun v9 h9 y9 hq => v_pq hq ?_)
      refine v_lcmp_eq (tgt := 30) dX10_isAlike_24 dX10_isAlike_25 (by decide) (fun c_25 => ?_) (fun c_25 => ?_)
      · refine v_iinc (j := 0) (L' := [(4, _), (3, _), (2, _), (1, _), (0, _)]) (v := nI (c + 1)) dX10_isAlike_30 rfl (nI_1 _) (Nat.le_of_ble_eq_true rfl) rfl ?_
        refine v_goto (tgt := 3) dX10_isAlike_33 (by decide) ?_
        refine v_sub (L' := [(4, _), (3, _), (2, _), (1, _), (0, _)]) [0, 1, 2, 3, 4] rfl ?_
        exact ih (c + 1) (by omega) (fun d hd => by by_cases e9 : d = c; (rw [e9]; exact c_25); exact hal d (by omega))
      · refine v_iconst (v := 0) dX10_isAlike_28 (by decide) ?_
        exact v_iret rfl dX10_isAlike_29 (Nat.le_of_ble_eq_true rfl) (Nat.le_of_ble_eq_true rfl) rfl (by rw [if_neg (show ¬ al7 (L.getD i []) (K.getD j []) from fun q9 => c_25 (q9 c hc))]; exact ⟨rfl, rfl, rfl⟩)

set_option maxHeartbeats 4000000 in
set_option maxRecDepth 100000 in
theorem c_isAlike (G : sv_G) (h : sv_h) (z t u : Nat) (L K : List (List Int64)) (H : tO G h t L) (H2 : tO G h u K) (i j : Nat) (hi : i < L.length) (hj : j < K.length) : CT G mX10_isAlike [.ref t, .int (nI i), .ref u, .int (nI j)] h z (fun v h1 z1 => v = some (.int (if al7 (L.getD i []) (K.getD j []) then 1 else 0)) ∧ h1 = h ∧ z1 = z) := by
  refine CT.of (by decide +kernel) rfl rfl (Nat.le_of_ble_eq_true rfl) ?_
  refine v_iconst (v := 0) dX10_isAlike_0 (by decide) ?_
  refine v_istore (L' := [(4, _), (0, _), (1, _), (2, _), (3, _)]) dX10_isAlike_1 (Nat.le_of_ble_eq_true rfl) rfl ?_
  refine v_sub (L' := [(4, _), (3, _), (2, _), (1, _), (0, _)]) [0, 4, 3, 2, 1] rfl ?_
  exact l_al G h _ t u L K H H2 i j hi hj 7 0 rfl (fun d hd => absurd hd (Nat.not_lt_zero d))

set_option maxHeartbeats 4000000 in
set_option maxRecDepth 100000 in
theorem l_bh (G : sv_G) (h : sv_h) (z t : Nat) (L : List (List Int64)) (H : tO G h t L) (i : Nat) (hi : i < L.length) : ∀ (e n : Nat), n + e = L.length → i < n → (∀ d, i ≤ d → d < n → al7 (L.getD i []) (L.getD d [])) → V G mX10_behindAlike (sv_MQ G mX10_behindAlike (fun v h1 z1 => (∃ n, v = some (.int (nI n)) ∧ i < n ∧ n ≤ L.length ∧ (∀ d, i ≤ d → d < n → al7 (L.getD i []) (L.getD d [])) ∧ (n < L.length → ¬ al7 (L.getD i []) (L.getD n []))) ∧ h1 = h ∧ z1 = z)) 4 [(2, .int (nI n)), (1, .int (nI i)), (0, .ref t)] [] h z 0 0 := by
  obtain ⟨hl, ax, aus, aov, ahm, aod, aw, _, a2, _⟩ := H.ob
  intro e
  induction e with
  | zero =>
    intro n hne hin hal
    refine v_iload_n dX10_behindAlike_4 rfl 0 rfl ?_
    refine v_aload_n dX10_behindAlike_5 rfl 2 rfl ?_
    refine v_getf 4 (ci := 8) (C := RX10) (T := TX10) (N := 7) rfl iwX10_behindAlike_X10 (Nat.le_of_ble_eq_true rfl) (by decide +kernel) dX10_behindAlike_6 (by first | with_reducible assumption) rfl ?_
    refine v_icmp_ge (tgt := 28) dX10_behindAlike_9 (by decide) (fun c_9 => ?_) (fun c_9 => ?_)
    · refine v_iload_n dX10_behindAlike_28 rfl 0 rfl ?_
      exact v_iret rfl dX10_behindAlike_29 (Nat.le_of_ble_eq_true rfl) (Nat.le_of_ble_eq_true rfl) rfl ⟨⟨n, rfl, hin, by omega, hal, fun q9 => absurd q9 (by omega)⟩, rfl, rfl⟩
    · exact absurd (nI_le (show L.length ≤ n by omega) (by omega)) c_9
  | succ e ih =>
    intro n hne hin hal
    have hn : n < L.length := by omega
    refine v_iload_n dX10_behindAlike_4 rfl 0 rfl ?_
    refine v_aload_n dX10_behindAlike_5 rfl 2 rfl ?_
    refine v_getf 4 (ci := 8) (C := RX10) (T := TX10) (N := 7) rfl iwX10_behindAlike_X10 (Nat.le_of_ble_eq_true rfl) (by decide +kernel) dX10_behindAlike_6 (by first | with_reducible assumption) rfl ?_
    refine v_icmp_ge (tgt := 28) dX10_behindAlike_9 (by decide) (fun c_9 => ?_) (fun c_9 => ?_)
    · exact absurd c_9 (nI_ge hn (by omega))
    · refine v_aload_n dX10_behindAlike_12 rfl 2 rfl ?_
      refine v_iload_n dX10_behindAlike_13 rfl 1 rfl ?_
      refine v_aload_n dX10_behindAlike_14 rfl 2 rfl ?_
      refine v_iload_n dX10_behindAlike_15 rfl 0 rfl ?_
      refine v_callVq (M' := mX10_isAlike) (n := 3) (As := [_, _, _]) (ci := 8) (r := (RX10, TX10, 7)) gX10_behindAlike_X10_isAlike rfl (by decide +kernel) ⟨(Nat.le_of_ble_eq_true rfl), (Nat.le_of_ble_eq_true rfl)⟩ rfl rfl dX10_behindAlike_16 rfl ⟨(Nat.le_of_ble_eq_true rfl), (Nat.le_of_ble_eq_true rfl)⟩ (Nat.le_of_ble_eq_true rfl) (by first | with_reducible assumption) rfl (c_isAlike G h _ t t L L H H i n hi hn) (fun v9 h9 y9 hq => v_pq hq ?_)
      refine v_if_eq (tgt := 28) dX10_behindAlike_19 (by decide) (fun c_19 => ?_) (fun c_19 => ?_)
      · refine v_iload_n dX10_behindAlike_28 rfl 0 rfl ?_
        exact v_iret rfl dX10_behindAlike_29 (Nat.le_of_ble_eq_true rfl) (Nat.le_of_ble_eq_true rfl) rfl ⟨⟨n, rfl, hin, by omega, hal, fun _ => sv_ift c_19⟩, rfl, rfl⟩
      · refine v_iinc (j := 0) (L' := [(2, _), (1, _), (0, _)]) (v := nI (n + 1)) dX10_behindAlike_22 rfl (nI_1 _) (Nat.le_of_ble_eq_true rfl) rfl ?_
        refine v_goto (tgt := 4) dX10_behindAlike_25 (by decide) ?_
        refine v_sub (L' := [(2, _), (1, _), (0, _)]) [0, 1, 2] rfl ?_
        exact ih (n + 1) (by omega) (by omega) (fun d h1 h2 => by by_cases e9 : d = n; (rw [e9]; exact sv_ifn c_19); exact hal d h1 (by omega))

set_option maxHeartbeats 4000000 in
set_option maxRecDepth 100000 in
theorem c_behind (G : sv_G) (h : sv_h) (z t : Nat) (L : List (List Int64)) (H : tO G h t L) (i : Nat) (hi : i < L.length) : CT G mX10_behindAlike [.ref t, .int (nI i)] h z (fun v h1 z1 => (∃ n, v = some (.int (nI n)) ∧ i < n ∧ n ≤ L.length ∧ (∀ d, i ≤ d → d < n → al7 (L.getD i []) (L.getD d [])) ∧ (n < L.length → ¬ al7 (L.getD i []) (L.getD n []))) ∧ h1 = h ∧ z1 = z) := by
  refine CT.of (by decide +kernel) rfl rfl (Nat.le_of_ble_eq_true rfl) ?_
  refine v_iload_n dX10_behindAlike_0 rfl 1 rfl ?_
  refine v_iconst (v := 1) dX10_behindAlike_1 (by decide) ?_
  refine v_iadd dX10_behindAlike_2 ?_
  rw [nI_1]
  refine v_istore_n (L' := [(2, _), (0, _), (1, _)]) dX10_behindAlike_3 rfl (Nat.le_of_ble_eq_true rfl) rfl ?_
  refine v_sub (L' := [(2, _), (1, _), (0, _)]) [0, 2, 1] rfl ?_
  exact l_bh G h _ t L H i hi (L.length - (i + 1)) (i + 1) (by omega) (by omega) (fun d h1 h2 => by rw [show d = i by omega]; exact fun _ _ => rfl)

def lt7 (r s : List Int64) : Prop := ∃ j, j < 7 ∧ (∀ i, i < j → r.getD i 0 = s.getD i 0) ∧ r.getD j 0 < s.getD j 0
theorem lt7_asym {r s : List Int64} (h : lt7 r s) (k : lt7 s r) : False := by
  obtain ⟨i, h1, h2, h3⟩ := h
  obtain ⟨j, k1, k2, k3⟩ := k
  rcases Nat.lt_trichotomy i j with e | e | e
  · rw [k2 i e] at h3; exact Int64.lt_irrefl h3
  · subst e; exact Int64.lt_irrefl (Int64.lt_trans h3 k3)
  · rw [h2 j e] at k3; exact Int64.lt_irrefl k3
theorem lt7_al {r s u : List Int64} (h : lt7 r s) (k : al7 s u) : lt7 r u := by
  obtain ⟨i, h1, h2, h3⟩ := h
  exact ⟨i, h1, fun j hj => (h2 j hj).trans (k j (by omega)), by rw [← k i h1]; exact h3⟩
theorem lexC_7 {r s : List Int64} : ∀ n i, lexC r s i n ≤ 0 → (∃ j, i ≤ j ∧ j < i + n ∧ (∀ k, i ≤ k → k < j → r.getD k 0 = s.getD k 0) ∧ r.getD j 0 < s.getD j 0) ∨ ∀ k, i ≤ k → k < i + n → r.getD k 0 = s.getD k 0 := by
  intro n
  induction n with
  | zero => intro i _; exact Or.inr (fun k h1 h2 => by omega)
  | succ n ih =>
    intro i h
    rcases lexC_le.mp h with h | ⟨h, k⟩
    · exact Or.inl ⟨i, Nat.le_refl _, by omega, fun k h1 h2 => by omega, h⟩
    · rcases ih (i + 1) k with ⟨j, q1, q2, q3, q4⟩ | q
      · exact Or.inl ⟨j, by omega, by omega, fun k h1 h2 => by by_cases e : k = i; (rw [e]; exact h); exact q3 k (by omega) h2, q4⟩
      · exact Or.inr (fun k h1 h2 => by by_cases e : k = i; (rw [e]; exact h); exact q k (by omega) (by omega))
theorem leR_7 {r s : List Int64} (h : leR false r s = true) : lt7 r s ∨ al7 r s := by
  have h := cmpR_le.mp (of_decide_eq_true h)
  rcases h with ⟨h, _⟩ | ⟨_, h⟩
  · exact absurd h (by decide)
  · rcases lexC_7 12 0 h with ⟨j, q1, q2, q3, q4⟩ | q
    · by_cases e : j < 7
      · exact Or.inl ⟨j, e, fun i hi => q3 i (Nat.zero_le _) hi, q4⟩
      · exact Or.inr (fun i hi => q3 i (Nat.zero_le _) (by omega))
    · exact Or.inr (fun i hi => q i (Nat.zero_le _) (by omega))
theorem pw_get {le : List Int64 → List Int64 → Bool} {L : List (List Int64)} (h : L.Pairwise (fun x y => le x y = true)) {i j : Nat} (hij : i < j) (hj : j < L.length) : le (L.getD i []) (L.getD j []) = true := by
  rw [List.getD_eq_getElem?_getD, List.getD_eq_getElem?_getD, List.getElem?_eq_getElem (by omega), List.getElem?_eq_getElem hj]
  exact List.pairwise_iff_getElem.mp h i j (by omega) hj hij
set_option maxHeartbeats 4000000 in
set_option maxRecDepth 100000 in
theorem l_hs (G : sv_G) (h : sv_h) (z t u : Nat) (L K : List (List Int64)) (H : tO G h t L) (H2 : tO G h u K) (sL : L.Pairwise (fun x y => leR false x y = true)) (sK : K.Pairwise (fun x y => leR false x y = true)) : ∀ (e n i j : Nat), e + n = 1500 → i ≤ L.length → j ≤ K.length → n ≤ i → (∀ a, i ≤ a → a < L.length → ∃ c, j ≤ c ∧ c < K.length ∧ al7 (L.getD a []) (K.getD c [])) → (∀ c, j ≤ c → c < K.length → ∃ a, i ≤ a ∧ a < L.length ∧ al7 (L.getD a []) (K.getD c [])) → V G mX10_hasSameAs (sv_MQ G mX10_hasSameAs (fun v h1 z1 => v = some (.int 1) ∧ h1 = h ∧ z1 = z)) 7 [(4, .int (nI n)), (3, .int (nI j)), (2, .int (nI i)), (1, .ref u), (0, .ref t)] [] h z 0 0 := by
  obtain ⟨hl, ax, aus, aov, ahm, aod, aw, _, a2, _⟩ := H.ob
  obtain ⟨hl2, bx, bus, bov, bhm, bod, bw, _, b2, _⟩ := H2.ob
  intro e
  induction e with
  | zero =>
    intro n i j hen hiL hjK hni hA hB
    have hn : n = 1500 := by omega
    have hiL : i = L.length := by omega
    subst hn
    refine v_iload dX10_hasSameAs_7 0 rfl ?_
    refine v_sipush (v := 1500) dX10_hasSameAs_9 (by decide) ?_
    refine v_icmp_ge (tgt := 61) dX10_hasSameAs_12 (by decide) (fun c_12 => ?_) (fun c_12 => ?_)
    · refine v_iload_n dX10_hasSameAs_61 rfl 2 rfl ?_
      refine v_aload_n dX10_hasSameAs_62 rfl 4 rfl ?_
      refine v_getf 4 (ci := 8) (C := RX10) (T := TX10) (N := 7) rfl iwX10_hasSameAs_X10 (Nat.le_of_ble_eq_true rfl) (by decide +kernel) dX10_hasSameAs_63 (by first | with_reducible assumption) rfl ?_
      refine v_icmp_ne (tgt := 81) dX10_hasSameAs_66 (by decide) (fun c_66 => ?_) (fun c_66 => ?_)
      · refine v_iconst (v := 0) dX10_hasSameAs_81 (by decide) ?_
        exact v_iret rfl dX10_hasSameAs_82 (Nat.le_of_ble_eq_true rfl) (Nat.le_of_ble_eq_true rfl) rfl (by
                  first
                    | exact ⟨rfl, rfl, rfl⟩
                    | (have c9 : ¬ nI j = nI K.length := c_74
                       have q1 : j < K.length := Decidable.byContradiction fun q9 => c9 (by rw [show j = K.length by omega])
                       obtain ⟨a, r1, r2, _⟩ := hB j (Nat.le_refl _) q1
                       have c8 : nI i = nI L.length := c_66
                       have q2 := (nI_eq (by omega) (by omega)).mp c8
                       omega)
                    | (have c9 : ¬ nI i = nI L.length := c_66
                       have q1 : i < L.length := Decidable.byContradiction fun q9 => c9 (by rw [show i = L.length by omega])
                       obtain ⟨c, r1, r2, _⟩ := hA i (Nat.le_refl _) q1
                       first
                         | (have c8 := c_28
                            have q2 : ¬ j < K.length := fun q9 => absurd c8 (nI_ge q9 (by omega))
                            omega)
                         | (have c8 := c_20
                            exact absurd c8 (nI_ge q1 (by omega)))
                         | omega))
      · refine v_iload_n dX10_hasSameAs_69 rfl 1 rfl ?_
        refine v_aload_n dX10_hasSameAs_70 rfl 3 rfl ?_
        refine v_getf 4 (ci := 8) (C := RX10) (T := TX10) (N := 7) rfl iwX10_hasSameAs_X10 (Nat.le_of_ble_eq_true rfl) (by decide +kernel) dX10_hasSameAs_71 (by first | with_reducible assumption) rfl ?_
        refine v_icmp_ne (tgt := 81) dX10_hasSameAs_74 (by decide) (fun c_74 => ?_) (fun c_74 => ?_)
        · refine v_iconst (v := 0) dX10_hasSameAs_81 (by decide) ?_
          exact v_iret rfl dX10_hasSameAs_82 (Nat.le_of_ble_eq_true rfl) (Nat.le_of_ble_eq_true rfl) rfl (by
                    first
                      | exact ⟨rfl, rfl, rfl⟩
                      | (have c9 : ¬ nI j = nI K.length := c_74
                         have q1 : j < K.length := Decidable.byContradiction fun q9 => c9 (by rw [show j = K.length by omega])
                         obtain ⟨a, r1, r2, _⟩ := hB j (Nat.le_refl _) q1
                         have c8 : nI i = nI L.length := c_66
                         have q2 := (nI_eq (by omega) (by omega)).mp c8
                         omega)
                      | (have c9 : ¬ nI i = nI L.length := c_66
                         have q1 : i < L.length := Decidable.byContradiction fun q9 => c9 (by rw [show i = L.length by omega])
                         obtain ⟨c, r1, r2, _⟩ := hA i (Nat.le_refl _) q1
                         first
                           | (have c8 := c_28
                              have q2 : ¬ j < K.length := fun q9 => absurd c8 (nI_ge q9 (by omega))
                              omega)
                           | (have c8 := c_20
                              exact absurd c8 (nI_ge q1 (by omega)))
                           | omega))
        · refine v_iconst (v := 1) dX10_hasSameAs_77 (by decide) ?_
          refine v_goto (tgt := 82) dX10_hasSameAs_78 (by decide) ?_
          exact v_iret rfl dX10_hasSameAs_82 (Nat.le_of_ble_eq_true rfl) (Nat.le_of_ble_eq_true rfl) rfl (by
                    first
                      | exact ⟨rfl, rfl, rfl⟩
                      | (have c9 : ¬ nI j = nI K.length := c_74
                         have q1 : j < K.length := Decidable.byContradiction fun q9 => c9 (by rw [show j = K.length by omega])
                         obtain ⟨a, r1, r2, _⟩ := hB j (Nat.le_refl _) q1
                         have c8 : nI i = nI L.length := c_66
                         have q2 := (nI_eq (by omega) (by omega)).mp c8
                         omega)
                      | (have c9 : ¬ nI i = nI L.length := c_66
                         have q1 : i < L.length := Decidable.byContradiction fun q9 => c9 (by rw [show i = L.length by omega])
                         obtain ⟨c, r1, r2, _⟩ := hA i (Nat.le_refl _) q1
                         first
                           | (have c8 := c_28
                              have q2 : ¬ j < K.length := fun q9 => absurd c8 (nI_ge q9 (by omega))
                              omega)
                           | (have c8 := c_20
                              exact absurd c8 (nI_ge q1 (by omega)))
                           | omega))
    · exact absurd (by decide) c_12
  | succ e ih =>
    intro n i j hen hiL hjK hni hA hB
    have hn : n < 1500 := by omega
    refine v_iload dX10_hasSameAs_7 0 rfl ?_
    refine v_sipush (v := 1500) dX10_hasSameAs_9 (by decide) ?_
    refine v_icmp_ge (tgt := 61) dX10_hasSameAs_12 (by decide) (fun c_12 => ?_) (fun c_12 => ?_)
    · exact absurd c_12 (nI_ge (a := n) (b := 1500) hn (by omega))
    · refine v_iload_n dX10_hasSameAs_15 rfl 2 rfl ?_
      refine v_aload_n dX10_hasSameAs_16 rfl 4 rfl ?_
      refine v_getf 4 (ci := 8) (C := RX10) (T := TX10) (N := 7) rfl iwX10_hasSameAs_X10 (Nat.le_of_ble_eq_true rfl) (by decide +kernel) dX10_hasSameAs_17 (by first | with_reducible assumption) rfl ?_
      refine v_icmp_ge (tgt := 61) dX10_hasSameAs_20 (by decide) (fun c_20 => ?_) (fun c_20 => ?_)
      · refine v_iload_n dX10_hasSameAs_61 rfl 2 rfl ?_
        refine v_aload_n dX10_hasSameAs_62 rfl 4 rfl ?_
        refine v_getf 4 (ci := 8) (C := RX10) (T := TX10) (N := 7) rfl iwX10_hasSameAs_X10 (Nat.le_of_ble_eq_true rfl) (by decide +kernel) dX10_hasSameAs_63 (by first | with_reducible assumption) rfl ?_
        refine v_icmp_ne (tgt := 81) dX10_hasSameAs_66 (by decide) (fun c_66 => ?_) (fun c_66 => ?_)
        · refine v_iconst (v := 0) dX10_hasSameAs_81 (by decide) ?_
          exact v_iret rfl dX10_hasSameAs_82 (Nat.le_of_ble_eq_true rfl) (Nat.le_of_ble_eq_true rfl) rfl (by
                    first
                      | exact ⟨rfl, rfl, rfl⟩
                      | (have c9 : ¬ nI j = nI K.length := c_74
                         have q1 : j < K.length := Decidable.byContradiction fun q9 => c9 (by rw [show j = K.length by omega])
                         obtain ⟨a, r1, r2, _⟩ := hB j (Nat.le_refl _) q1
                         have c8 : nI i = nI L.length := c_66
                         have q2 := (nI_eq (by omega) (by omega)).mp c8
                         omega)
                      | (have c9 : ¬ nI i = nI L.length := c_66
                         have q1 : i < L.length := Decidable.byContradiction fun q9 => c9 (by rw [show i = L.length by omega])
                         obtain ⟨c, r1, r2, _⟩ := hA i (Nat.le_refl _) q1
                         first
                           | (have c8 := c_28
                              have q2 : ¬ j < K.length := fun q9 => absurd c8 (nI_ge q9 (by omega))
                              omega)
                           | (have c8 := c_20
                              exact absurd c8 (nI_ge q1 (by omega)))
                           | omega))
        · refine v_iload_n dX10_hasSameAs_69 rfl 1 rfl ?_
          refine v_aload_n dX10_hasSameAs_70 rfl 3 rfl ?_
          refine v_getf 4 (ci := 8) (C := RX10) (T := TX10) (N := 7) rfl iwX10_hasSameAs_X10 (Nat.le_of_ble_eq_true rfl) (by decide +kernel) dX10_hasSameAs_71 (by first | with_reducible assumption) rfl ?_
          refine v_icmp_ne (tgt := 81) dX10_hasSameAs_74 (by decide) (fun c_74 => ?_) (fun c_74 => ?_)
          · refine v_iconst (v := 0) dX10_hasSameAs_81 (by decide) ?_
            exact v_iret rfl dX10_hasSameAs_82 (Nat.le_of_ble_eq_true rfl) (Nat.le_of_ble_eq_true rfl) rfl (by
                      first
                        | exact ⟨rfl, rfl, rfl⟩
                        | (have c9 : ¬ nI j = nI K.length := c_74
                           have q1 : j < K.length := Decidable.byContradiction fun q9 => c9 (by rw [show j = K.length by omega])
                           obtain ⟨a, r1, r2, _⟩ := hB j (Nat.le_refl _) q1
                           have c8 : nI i = nI L.length := c_66
                           have q2 := (nI_eq (by omega) (by omega)).mp c8
                           omega)
                        | (have c9 : ¬ nI i = nI L.length := c_66
                           have q1 : i < L.length := Decidable.byContradiction fun q9 => c9 (by rw [show i = L.length by omega])
                           obtain ⟨c, r1, r2, _⟩ := hA i (Nat.le_refl _) q1
                           first
                             | (have c8 := c_28
                                have q2 : ¬ j < K.length := fun q9 => absurd c8 (nI_ge q9 (by omega))
                                omega)
                             | (have c8 := c_20
                                exact absurd c8 (nI_ge q1 (by omega)))
                             | omega))
          · refine v_iconst (v := 1) dX10_hasSameAs_77 (by decide) ?_
            refine v_goto (tgt := 82) dX10_hasSameAs_78 (by decide) ?_
            exact v_iret rfl dX10_hasSameAs_82 (Nat.le_of_ble_eq_true rfl) (Nat.le_of_ble_eq_true rfl) rfl (by
                      first
                        | exact ⟨rfl, rfl, rfl⟩
                        | (have c9 : ¬ nI j = nI K.length := c_74
                           have q1 : j < K.length := Decidable.byContradiction fun q9 => c9 (by rw [show j = K.length by omega])
                           obtain ⟨a, r1, r2, _⟩ := hB j (Nat.le_refl _) q1
                           have c8 : nI i = nI L.length := c_66
                           have q2 := (nI_eq (by omega) (by omega)).mp c8
                           omega)
                        | (have c9 : ¬ nI i = nI L.length := c_66
                           have q1 : i < L.length := Decidable.byContradiction fun q9 => c9 (by rw [show i = L.length by omega])
                           obtain ⟨c, r1, r2, _⟩ := hA i (Nat.le_refl _) q1
                           first
                             | (have c8 := c_28
                                have q2 : ¬ j < K.length := fun q9 => absurd c8 (nI_ge q9 (by omega))
                                omega)
                             | (have c8 := c_20
                                exact absurd c8 (nI_ge q1 (by omega)))
                             | omega))
      · refine v_iload_n dX10_hasSameAs_23 rfl 1 rfl ?_
        refine v_aload_n dX10_hasSameAs_24 rfl 3 rfl ?_
        refine v_getf 4 (ci := 8) (C := RX10) (T := TX10) (N := 7) rfl iwX10_hasSameAs_X10 (Nat.le_of_ble_eq_true rfl) (by decide +kernel) dX10_hasSameAs_25 (by first | with_reducible assumption) rfl ?_
        refine v_icmp_ge (tgt := 61) dX10_hasSameAs_28 (by decide) (fun c_28 => ?_) (fun c_28 => ?_)
        · refine v_iload_n dX10_hasSameAs_61 rfl 2 rfl ?_
          refine v_aload_n dX10_hasSameAs_62 rfl 4 rfl ?_
          refine v_getf 4 (ci := 8) (C := RX10) (T := TX10) (N := 7) rfl iwX10_hasSameAs_X10 (Nat.le_of_ble_eq_true rfl) (by decide +kernel) dX10_hasSameAs_63 (by first | with_reducible assumption) rfl ?_
          refine v_icmp_ne (tgt := 81) dX10_hasSameAs_66 (by decide) (fun c_66 => ?_) (fun c_66 => ?_)
          · refine v_iconst (v := 0) dX10_hasSameAs_81 (by decide) ?_
            exact v_iret rfl dX10_hasSameAs_82 (Nat.le_of_ble_eq_true rfl) (Nat.le_of_ble_eq_true rfl) rfl (by
                      first
                        | exact ⟨rfl, rfl, rfl⟩
                        | (have c9 : ¬ nI j = nI K.length := c_74
                           have q1 : j < K.length := Decidable.byContradiction fun q9 => c9 (by rw [show j = K.length by omega])
                           obtain ⟨a, r1, r2, _⟩ := hB j (Nat.le_refl _) q1
                           have c8 : nI i = nI L.length := c_66
                           have q2 := (nI_eq (by omega) (by omega)).mp c8
                           omega)
                        | (have c9 : ¬ nI i = nI L.length := c_66
                           have q1 : i < L.length := Decidable.byContradiction fun q9 => c9 (by rw [show i = L.length by omega])
                           obtain ⟨c, r1, r2, _⟩ := hA i (Nat.le_refl _) q1
                           first
                             | (have c8 := c_28
                                have q2 : ¬ j < K.length := fun q9 => absurd c8 (nI_ge q9 (by omega))
                                omega)
                             | (have c8 := c_20
                                exact absurd c8 (nI_ge q1 (by omega)))
                             | omega))
          · refine v_iload_n dX10_hasSameAs_69 rfl 1 rfl ?_
            refine v_aload_n dX10_hasSameAs_70 rfl 3 rfl ?_
            refine v_getf 4 (ci := 8) (C := RX10) (T := TX10) (N := 7) rfl iwX10_hasSameAs_X10 (Nat.le_of_ble_eq_true rfl) (by decide +kernel) dX10_hasSameAs_71 (by first | with_reducible assumption) rfl ?_
            refine v_icmp_ne (tgt := 81) dX10_hasSameAs_74 (by decide) (fun c_74 => ?_) (fun c_74 => ?_)
            · refine v_iconst (v := 0) dX10_hasSameAs_81 (by decide) ?_
              exact v_iret rfl dX10_hasSameAs_82 (Nat.le_of_ble_eq_true rfl) (Nat.le_of_ble_eq_true rfl) rfl (by
                        first
                          | exact ⟨rfl, rfl, rfl⟩
                          | (have c9 : ¬ nI j = nI K.length := c_74
                             have q1 : j < K.length := Decidable.byContradiction fun q9 => c9 (by rw [show j = K.length by omega])
                             obtain ⟨a, r1, r2, _⟩ := hB j (Nat.le_refl _) q1
                             have c8 : nI i = nI L.length := c_66
                             have q2 := (nI_eq (by omega) (by omega)).mp c8
                             omega)
                          | (have c9 : ¬ nI i = nI L.length := c_66
                             have q1 : i < L.length := Decidable.byContradiction fun q9 => c9 (by rw [show i = L.length by omega])
                             obtain ⟨c, r1, r2, _⟩ := hA i (Nat.le_refl _) q1
                             first
                               | (have c8 := c_28
                                  have q2 : ¬ j < K.length := fun q9 => absurd c8 (nI_ge q9 (by omega))
                                  omega)
                               | (have c8 := c_20
                                  exact absurd c8 (nI_ge q1 (by omega)))
                               | omega))
            · refine v_iconst (v := 1) dX10_hasSameAs_77 (by decide) ?_
              refine v_goto (tgt := 82) dX10_hasSameAs_78 (by decide) ?_
              exact v_iret rfl dX10_hasSameAs_82 (Nat.le_of_ble_eq_true rfl) (Nat.le_of_ble_eq_true rfl) rfl (by
                        first
                          | exact ⟨rfl, rfl, rfl⟩
                          | (have c9 : ¬ nI j = nI K.length := c_74
                             have q1 : j < K.length := Decidable.byContradiction fun q9 => c9 (by rw [show j = K.length by omega])
                             obtain ⟨a, r1, r2, _⟩ := hB j (Nat.le_refl _) q1
                             have c8 : nI i = nI L.length := c_66
                             have q2 := (nI_eq (by omega) (by omega)).mp c8
                             omega)
                          | (have c9 : ¬ nI i = nI L.length := c_66
                             have q1 : i < L.length := Decidable.byContradiction fun q9 => c9 (by rw [show i = L.length by omega])
                             obtain ⟨c, r1, r2, _⟩ := hA i (Nat.le_refl _) q1
                             first
                               | (have c8 := c_28
                                  have q2 : ¬ j < K.length := fun q9 => absurd c8 (nI_ge q9 (by omega))
                                  omega)
                               | (have c8 := c_20
                                  exact absurd c8 (nI_ge q1 (by omega)))
                               | omega))
        · have hi : i < L.length := Decidable.byContradiction fun q9 => c_20 (nI_le (by omega) (by omega))
          have hj : j < K.length := Decidable.byContradiction fun q9 => c_28 (nI_le (by omega) (by omega))
          have hal : al7 (L.getD i []) (K.getD j []) := (by
            obtain ⟨c, r1, r2, r3⟩ := hA i (Nat.le_refl _) hi
            obtain ⟨a, s1, s2, s3⟩ := hB j (Nat.le_refl _) hj
            by_cases ec : c = j
            · rw [ec] at r3; exact r3
            by_cases ea : a = i
            · rw [ea] at s3; exact s3
            rcases leR_7 (pw_get sK (show j < c by omega) r2) with q1 | q1
            · rcases leR_7 (pw_get sL (show i < a by omega) s2) with q2 | q2
              · exact (lt7_asym (lt7_al q1 r3.sy9) (lt7_al q2 s3)).elim
              · exact q2.tr9 s3
            · exact r3.tr9 q1.sy9)
          refine v_aload_n dX10_hasSameAs_31 rfl 4 rfl ?_
          refine v_iload_n dX10_hasSameAs_32 rfl 2 rfl ?_
          refine v_aload_n dX10_hasSameAs_33 rfl 3 rfl ?_
          refine v_iload_n dX10_hasSameAs_34 rfl 1 rfl ?_
          refine v_callVq (M' := mX10_isAlike) (n := 3) (As := [_, _, _]) (ci := 8) (r := (RX10, TX10, 7)) gX10_hasSameAs_X10_isAlike rfl (by decide +kernel) ⟨(Nat.le_of_ble_eq_true rfl), (Nat.le_of_ble_eq_true rfl)⟩ rfl rfl dX10_hasSameAs_35 rfl ⟨(Nat.le_of_ble_eq_true rfl), (Nat.le_of_ble_eq_true rfl)⟩ (Nat.le_of_ble_eq_true rfl) (by first | with_reducible assumption) rfl (c_isAlike G h _ t u L K H H2 i j hi hj) (fun v9 h9 y9 hq => v_pq hq ?_)
          refine v_if_ne (tgt := 43) dX10_hasSameAs_38 (by decide) (fun c_38 => ?_) (fun c_38 => ?_)
          · refine v_aload_n dX10_hasSameAs_43 rfl 4 rfl ?_
            refine v_iload_n dX10_hasSameAs_44 rfl 2 rfl ?_
            refine v_callVq (M' := mX10_behindAlike) (n := 1) (As := [_]) (ci := 8) (r := (RX10, TX10, 7)) gX10_hasSameAs_X10_behindAlike rfl (by decide +kernel) ⟨(Nat.le_of_ble_eq_true rfl), (Nat.le_of_ble_eq_true rfl)⟩ rfl rfl dX10_hasSameAs_45 rfl ⟨(Nat.le_of_ble_eq_true rfl), (Nat.le_of_ble_eq_true rfl)⟩ (Nat.le_of_ble_eq_true rfl) (by first | with_reducible assumption) rfl (c_behind G h _ t L H i hi) (fun v h1 z1 hq9 => ?_)
            obtain ⟨⟨n1, rfl, p1, p2, p3, p4⟩, rfl, rfl⟩ := hq9
            refine v_istore_n (L' := [(2, _), (4, _), (3, _), (1, _), (0, _)]) dX10_hasSameAs_48 rfl (Nat.le_of_ble_eq_true rfl) rfl ?_
            refine v_aload_n dX10_hasSameAs_49 rfl 3 rfl ?_
            refine v_iload_n dX10_hasSameAs_50 rfl 2 rfl ?_
            refine v_callVq (M' := mX10_behindAlike) (n := 1) (As := [_]) (ci := 8) (r := (RX10, TX10, 7)) gX10_hasSameAs_X10_behindAlike rfl (by decide +kernel) ⟨(Nat.le_of_ble_eq_true rfl), (Nat.le_of_ble_eq_true rfl)⟩ rfl rfl dX10_hasSameAs_51 rfl ⟨(Nat.le_of_ble_eq_true rfl), (Nat.le_of_ble_eq_true rfl)⟩ (Nat.le_of_ble_eq_true rfl) (by first | with_reducible assumption) rfl (c_behind G h1 _ u K H2 j hj) (fun v h2 z2 hq9 => ?_)
            obtain ⟨⟨n2, rfl, q1, q2, q3, q4⟩, rfl, rfl⟩ := hq9
            refine v_istore_n (L' := [(3, _), (2, _), (4, _), (1, _), (0, _)]) dX10_hasSameAs_54 rfl (Nat.le_of_ble_eq_true rfl) rfl ?_
            refine v_iinc (j := 2) (L' := [(4, _), (3, _), (2, _), (1, _), (0, _)]) (v := nI (n + 1)) dX10_hasSameAs_55 rfl (nI_1 _) (Nat.le_of_ble_eq_true rfl) rfl ?_
            refine v_goto (tgt := 7) dX10_hasSameAs_58 (by decide) ?_
            refine v_sub (L' := [(4, _), (3, _), (2, _), (1, _), (0, _)]) [0, 1, 2, 3, 4] rfl ?_
            refine ih (n + 1) n1 n2 (by omega) p2 q2 (by omega) (fun a r1 r2 => ?_) (fun c r1 r2 => ?_)
            · obtain ⟨c, s1, s2, s3⟩ := hA a (by omega) r2
              refine ⟨c, ?_, s2, s3⟩
              refine Nat.le_of_not_lt (fun s4 => ?_)
              have e1 := q3 c s1 s4
              have e2 : al7 (L.getD i []) (L.getD a []) := (hal.tr9 e1).tr9 s3.sy9
              rcases Nat.lt_or_ge n1 a with e3 | e3
              · rcases leR_7 (pw_get sL e3 r2) with e4 | e4
                · rcases leR_7 (pw_get sL p1 (by omega)) with e5 | e5
                  · exact lt7_asym (lt7_al e5 (fun _ _ => rfl)) (lt7_al e4 e2.sy9)
                  · exact p4 (by omega) e5
                · exact p4 (by omega) (e2.tr9 e4.sy9)
              · have e4 : a = n1 := by omega
                rw [e4] at e2
                exact p4 (by omega) e2
            · obtain ⟨a, s1, s2, s3⟩ := hB c (by omega) r2
              refine ⟨a, ?_, s2, s3⟩
              refine Nat.le_of_not_lt (fun s4 => ?_)
              have e1 := p3 a s1 s4
              have e2 : al7 (K.getD j []) (K.getD c []) := (hal.sy9.tr9 e1).tr9 s3
              rcases Nat.lt_or_ge n2 c with e3 | e3
              · rcases leR_7 (pw_get sK e3 r2) with e4 | e4
                · rcases leR_7 (pw_get sK q1 (by omega)) with e5 | e5
                  · exact lt7_asym (lt7_al e5 (fun _ _ => rfl)) (lt7_al e4 e2.sy9)
                  · exact q4 (by omega) e5
                · exact q4 (by omega) (e2.tr9 e4.sy9)
              · have e4 : c = n2 := by omega
                rw [e4] at e2
                exact q4 (by omega) e2
          · exact absurd c_38 (by rw [if_pos hal]; decide)

set_option maxHeartbeats 4000000 in
set_option maxRecDepth 100000 in
theorem c_hasSameAs (G : sv_G) (h : sv_h) (z t u : Nat) (L K : List (List Int64)) (H : tO G h t L) (H2 : tO G h u K) (sL : L.Pairwise (fun x y => leR false x y = true)) (sK : K.Pairwise (fun x y => leR false x y = true)) (hA : ∀ a, a < L.length → ∃ c, c < K.length ∧ al7 (L.getD a []) (K.getD c [])) (hB : ∀ c, c < K.length → ∃ a, a < L.length ∧ al7 (L.getD a []) (K.getD c [])) : CT G mX10_hasSameAs [.ref t, .ref u] h z (fun v h1 z1 => v = some (.int 1) ∧ h1 = h ∧ z1 = z) := by
  refine CT.of (by decide +kernel) rfl rfl (Nat.le_of_ble_eq_true rfl) ?_
  refine v_iconst (v := 0) dX10_hasSameAs_0 (by decide) ?_
  refine v_istore_n (L' := [(2, _), (0, _), (1, _)]) dX10_hasSameAs_1 rfl (Nat.le_of_ble_eq_true rfl) rfl ?_
  refine v_iconst (v := 0) dX10_hasSameAs_2 (by decide) ?_
  refine v_istore_n (L' := [(3, _), (2, _), (0, _), (1, _)]) dX10_hasSameAs_3 rfl (Nat.le_of_ble_eq_true rfl) rfl ?_
  refine v_iconst (v := 0) dX10_hasSameAs_4 (by decide) ?_
  refine v_istore (L' := [(4, _), (3, _), (2, _), (0, _), (1, _)]) dX10_hasSameAs_5 (Nat.le_of_ble_eq_true rfl) rfl ?_
  refine v_sub (L' := [(4, _), (3, _), (2, _), (1, _), (0, _)]) [0, 1, 2, 4, 3] rfl ?_
  exact l_hs G h _ t u L K H H2 sL sK 1500 0 0 0 rfl (Nat.zero_le _) (Nat.zero_le _) (Nat.le_refl _) (fun a _ r2 => by obtain ⟨c, s1, s2⟩ := hA a r2; exact ⟨c, Nat.zero_le _, s1, s2⟩) (fun c _ r2 => by obtain ⟨a, s1, s2⟩ := hB c r2; exact ⟨a, Nat.zero_le _, s1, s2⟩)

