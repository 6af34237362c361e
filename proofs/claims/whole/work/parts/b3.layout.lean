theorem iwX1_layOut_X1 : ∀ w ∈ wsX10, w ∈ wsX1_layOut := by decide +kernel
theorem iwX1_layOut_X10 : ∀ w ∈ wsX100, w ∈ wsX1_layOut := by decide +kernel
set_option maxRecDepth 20000 in
theorem ggX1_layOut_X10_value : GoodIn wsX1_layOut wsX10_value := goodIn_r _ [8, 9, 10, 76, 77, 78, 79, 80, 81, 82] (by decide +kernel) (by decide +kernel)
set_option maxRecDepth 20000 in
theorem gX1_layOut_X10_value : GoodIn wsX1_layOut (wsV RX1 89 RX10 yX10_value wsX10_value) := goodIn_app (goodIn_of _ (by decide +kernel)) ggX1_layOut_X10_value
set_option maxRecDepth 20000 in
theorem ggX1_layOut_X10_clear : GoodIn wsX1_layOut wsX10_clear := goodIn_r _ [14, 15, 16, 17, 76, 77, 78, 79, 80, 81, 82] (by decide +kernel) (by decide +kernel)
set_option maxRecDepth 20000 in
theorem gX1_layOut_X10_clear : GoodIn wsX1_layOut (wsV RX1 49 RX10 yX10_clear wsX10_clear) := goodIn_app (goodIn_of _ (by decide +kernel)) ggX1_layOut_X10_clear
set_option maxRecDepth 20000 in
theorem ggX1_layOut_X1_layOutBelow : GoodIn wsX1_layOut wsX1_layOutBelow := goodIn_r _ [22, 1, 3, 23, 24, 25, 26, 27, 28, 29, 30, 31, 32, 7, 33, 34, 35, 36, 37, 38, 39, 40, 41, 17, 10, 9, 15, 42, 43, 44, 45, 46, 5, 6, 8, 47, 48, 49, 50, 51, 52, 53, 54, 55, 56, 57, 58, 59, 60, 61, 62, 63, 16, 64, 65, 66, 67, 68, 69, 18, 19, 20, 21, 70, 71, 72, 73, 74, 75, 76, 77, 78, 79, 80, 81, 82, 83, 84, 85, 86, 87, 88, 89, 90, 91, 92, 93, 94, 95, 96] (by decide +kernel) (by decide +kernel)
set_option maxRecDepth 20000 in
theorem gX1_layOut_X1_layOutBelow : GoodIn wsX1_layOut (wsV RX1 93 RX1 yX1_layOutBelow wsX1_layOutBelow) := goodIn_app (goodIn_of _ (by decide +kernel)) ggX1_layOut_X1_layOutBelow
theorem dX1_layOut_0 : decode cX1_layOut 0 = .ok (.iconst 0, 1) := by decide +kernel
theorem dX1_layOut_1 : decode cX1_layOut 1 = .ok (.istore 4, 2) := by decide +kernel
theorem dX1_layOut_3 : decode cX1_layOut 3 = .ok (.iconst 0, 1) := by decide +kernel
theorem dX1_layOut_4 : decode cX1_layOut 4 = .ok (.istore 5, 2) := by decide +kernel
theorem dX1_layOut_6 : decode cX1_layOut 6 = .ok (.iload 5, 2) := by decide +kernel
theorem dX1_layOut_8 : decode cX1_layOut 8 = .ok (.bipush 16, 2) := by decide +kernel
theorem dX1_layOut_10 : decode cX1_layOut 10 = .ok (.if_icmp .ge 48, 3) := by decide +kernel
theorem dX1_layOut_13 : decode cX1_layOut 13 = .ok (.aload_n 0, 1) := by decide +kernel
theorem dX1_layOut_14 : decode cX1_layOut 14 = .ok (.getfield 17, 3) := by decide +kernel
theorem dX1_layOut_17 : decode cX1_layOut 17 = .ok (.iload 5, 2) := by decide +kernel
theorem dX1_layOut_19 : decode cX1_layOut 19 = .ok (.iload 4, 2) := by decide +kernel
theorem dX1_layOut_21 : decode cX1_layOut 21 = .ok (.iastore, 1) := by decide +kernel
theorem dX1_layOut_22 : decode cX1_layOut 22 = .ok (.iload 4, 2) := by decide +kernel
theorem dX1_layOut_24 : decode cX1_layOut 24 = .ok (.aload_n 1, 1) := by decide +kernel
theorem dX1_layOut_25 : decode cX1_layOut 25 = .ok (.getfield 86, 3) := by decide +kernel
theorem dX1_layOut_28 : decode cX1_layOut 28 = .ok (.if_icmp .ge 24, 3) := by decide +kernel
theorem dX1_layOut_31 : decode cX1_layOut 31 = .ok (.aload_n 1, 1) := by decide +kernel
theorem dX1_layOut_32 : decode cX1_layOut 32 = .ok (.iload 4, 2) := by decide +kernel
theorem dX1_layOut_34 : decode cX1_layOut 34 = .ok (.bipush 7, 2) := by decide +kernel
theorem dX1_layOut_36 : decode cX1_layOut 36 = .ok (.invokevirtual 89, 3) := by decide +kernel
theorem dX1_layOut_39 : decode cX1_layOut 39 = .ok (.iload 5, 2) := by decide +kernel
theorem dX1_layOut_41 : decode cX1_layOut 41 = .ok (.i2l, 1) := by decide +kernel
theorem dX1_layOut_42 : decode cX1_layOut 42 = .ok (.lcmp, 1) := by decide +kernel
theorem dX1_layOut_43 : decode cX1_layOut 43 = .ok (.ifCond .ne 9, 3) := by decide +kernel
theorem dX1_layOut_46 : decode cX1_layOut 46 = .ok (.iinc 4 1, 3) := by decide +kernel
theorem dX1_layOut_49 : decode cX1_layOut 49 = .ok (.goto (-27), 3) := by decide +kernel
theorem dX1_layOut_52 : decode cX1_layOut 52 = .ok (.iinc 5 1, 3) := by decide +kernel
theorem dX1_layOut_55 : decode cX1_layOut 55 = .ok (.goto (-49), 3) := by decide +kernel
theorem dX1_layOut_58 : decode cX1_layOut 58 = .ok (.aload_n 0, 1) := by decide +kernel
theorem dX1_layOut_59 : decode cX1_layOut 59 = .ok (.getfield 17, 3) := by decide +kernel
theorem dX1_layOut_62 : decode cX1_layOut 62 = .ok (.bipush 16, 2) := by decide +kernel
theorem dX1_layOut_64 : decode cX1_layOut 64 = .ok (.iload 4, 2) := by decide +kernel
theorem dX1_layOut_66 : decode cX1_layOut 66 = .ok (.iastore, 1) := by decide +kernel
theorem dX1_layOut_67 : decode cX1_layOut 67 = .ok (.aload_n 3, 1) := by decide +kernel
theorem dX1_layOut_68 : decode cX1_layOut 68 = .ok (.invokevirtual 49, 3) := by decide +kernel
theorem dX1_layOut_71 : decode cX1_layOut 71 = .ok (.aload_n 0, 1) := by decide +kernel
theorem dX1_layOut_72 : decode cX1_layOut 72 = .ok (.aload_n 1, 1) := by decide +kernel
theorem dX1_layOut_73 : decode cX1_layOut 73 = .ok (.iload_n 2, 1) := by decide +kernel
theorem dX1_layOut_74 : decode cX1_layOut 74 = .ok (.iconst 0, 1) := by decide +kernel
theorem dX1_layOut_75 : decode cX1_layOut 75 = .ok (.aload_n 3, 1) := by decide +kernel
theorem dX1_layOut_76 : decode cX1_layOut 76 = .ok (.invokevirtual 93, 3) := by decide +kernel
theorem dX1_layOut_79 : decode cX1_layOut 79 = .ok (.aload_n 3, 1) := by decide +kernel
theorem dX1_layOut_80 : decode cX1_layOut 80 = .ok (.getfield 83, 3) := by decide +kernel
theorem dX1_layOut_83 : decode cX1_layOut 83 = .ok (.ifCond .ne 7, 3) := by decide +kernel
theorem dX1_layOut_86 : decode cX1_layOut 86 = .ok (.iconst 1, 1) := by decide +kernel
theorem dX1_layOut_87 : decode cX1_layOut 87 = .ok (.goto 4, 3) := by decide +kernel
theorem dX1_layOut_90 : decode cX1_layOut 90 = .ok (.iconst 0, 1) := by decide +kernel
theorem dX1_layOut_91 : decode cX1_layOut 91 = .ok (.ireturn, 1) := by decide +kernel

abbrev mX1_layOut : sv_M := (cX1_layOut, 6, yX1_layOut, wsX1_layOut, (some .boolean), { frames := 22, cells := 0, slots := 0, locals := 640 }, [])
theorem bgL_m {Lc : Nat → List (List Int64)} {c d : Nat} (h : c ≤ d) : bgL Lc c ≤ bgL Lc d := bgL_le h
theorem bgL_at {Lc : Nat → List (List Int64)} : ∀ (n j : Nat), j < bgL Lc n → ∃ c x, c < n ∧ x < (Lc c).length ∧ j = bgL Lc c + x := by
  intro n
  induction n with
  | zero => intro j hj; exact absurd hj (Nat.not_lt_zero j)
  | succ n ih =>
    intro j hj
    rw [bgL_s] at hj
    by_cases e : j < bgL Lc n
    · obtain ⟨c, x, h1, h2, h3⟩ := ih j e
      exact ⟨c, x, by omega, h2, h3⟩
    · exact ⟨n, j - bgL Lc n, by omega, by omega, by omega⟩
theorem nI_64ne {a b : Nat} (ha : a < 16) (hb : b < 16) (h : a ≠ b) : (nI a).toInt64 ≠ (nI b).toInt64 := by
  intro e
  rw [show (nI a).toInt64 = jN (a : Int) from iN_64 (x := (a : Int)) (by omega) (by omega), show (nI b).toInt64 = jN (b : Int) from iN_64 (x := (b : Int)) (by omega) (by omega), jN_eq (by omega) (by omega) (by omega) (by omega)] at e
  omega
set_option maxHeartbeats 4000000 in
set_option maxRecDepth 100000 in
theorem l_loI (G : sv_G) (Qr : Option Value → sv_h → Nat → Prop) (h0 : sv_h) (z b : Nat) (c4 c5 : Value) (hchk : h0 (b + 32) = some (.inr (0, [.ref (b + 1), .ref (b + 35), .ref (b + 33), .ref (b + 34), c4, c5]))) (Lc : Nat → List (List Int64)) (t1 t2 : Nat) (hta : b + 204 ≤ t1 ∧ t1 + 4 ≤ b + 220) (H1 : tO G h0 t1 ((List.range 16).flatMap Lc)) (hcell : ∀ c, c < 16 → ∀ x, x < (Lc c).length → ((Lc c).getD x []).getD 7 0 = (nI c).toInt64) (cl : Int32) (i : Nat) (hi : i < 16) (h : sv_h) (fr : (∀ a, a ≠ b + 34 → h a = h0 a)) (hk : V G mX1_layOut (sv_MQ G mX1_layOut Qr) 52 [(5, .int (nI i)), (4, .int (nI (bgL Lc (i + 1)))), (3, .ref t2), (2, .int cl), (1, .ref t1), (0, .ref (b + 32))] [] h z 0 0) : ∀ (e x : Nat), x + e = (Lc i).length → V G mX1_layOut (sv_MQ G mX1_layOut Qr) 22 [(5, .int (nI i)), (4, .int (nI (bgL Lc i + x))), (3, .ref t2), (2, .int cl), (1, .ref t1), (0, .ref (b + 32))] [] h z 0 0 := by
  intro e
  induction e with
  | zero =>
    intro x hxe
    have rC := (fr (b + 32) (by omega)).trans hchk
    have rT : tO G h t1 ((List.range 16).flatMap Lc) := H1.kept (fun a p1 p2 => fr a (by omega))
    obtain ⟨sx9, sro, sod, sst, sus, sov, shm, sw, hlen, ⟨s0, s1, s2, s3, s4⟩, s5⟩ := id rT
    have hb16 : ((List.range 16).flatMap Lc).length = bgL Lc 16 := rfl
    have hbs := bgL_s Lc i
    have hb1 := bgL_m (Lc := Lc) (show i + 1 ≤ 16 by omega)
    have e9 : bgL Lc i + x = bgL Lc (i + 1) := by omega
    rw [e9]
    refine v_iload dX1_layOut_22 1 rfl ?_
    refine v_aload_n dX1_layOut_24 rfl 4 rfl ?_
    refine v_getf 4 (ci := 8) (C := RX10) (T := TX10) (N := 7) rfl iwX1_layOut_X10 (Nat.le_of_ble_eq_true rfl) (by decide +kernel) dX1_layOut_25 (by first | with_reducible assumption) rfl ?_
    refine v_icmp_ge (tgt := 52) dX1_layOut_28 (by decide) (fun c_28 => ?_) (fun c_28 => ?_)
    · refine v_sub (L' := [(5, _), (4, _), (3, _), (2, _), (1, _), (0, _)]) [0, 1, 2, 3, 4, 5] rfl ?_
      exact hk
    · have hlt : bgL Lc (i + 1) < bgL Lc 16 := Decidable.byContradiction fun q9 => c_28 (nI_le (by omega) (by omega))
      obtain ⟨c9, x9, g1, g2, g3⟩ := bgL_at 16 _ hlt
      have g4 : i < c9 := Decidable.byContradiction fun q9 => (by have := bgL_m (Lc := Lc) (show c9 + 1 ≤ i + 1 by omega); rw [bgL_s] at this; omega)
      obtain ⟨g5, g6⟩ := bgL_get (n := 16) g1 g2
      refine v_aload_n dX1_layOut_31 rfl 4 rfl ?_
      refine v_iload dX1_layOut_32 1 rfl ?_
      refine v_bipush (v := 7) dX1_layOut_34 (by decide) ?_
      refine v_callVq (M' := mX10_value) (n := 2) (As := [_, _]) (ci := 8) (r := (RX10, TX10, 7)) gX1_layOut_X10_value rfl (by decide +kernel) ⟨(Nat.le_of_ble_eq_true rfl), (Nat.le_of_ble_eq_true rfl)⟩ rfl rfl dX1_layOut_36 rfl ⟨(Nat.le_of_ble_eq_true rfl), (Nat.le_of_ble_eq_true rfl)⟩ (Nat.le_of_ble_eq_true rfl) (by first | with_reducible assumption) rfl (c_tOv G _ _ t1 _ rT (bgL Lc (i + 1)) 7 (by omega) (by decide) (by decide)) (fun v9 h9 y9 hq => v_pq hq ?_)
      refine v_iload dX1_layOut_39 0 rfl ?_
      refine v_i2l dX1_layOut_41 rfl ?_
      refine v_lcmp_ne (tgt := 52) dX1_layOut_42 dX1_layOut_43 (by decide) (fun c_43 => ?_) (fun c_43 => ?_)
      · refine v_sub (L' := [(5, _), (4, _), (3, _), (2, _), (1, _), (0, _)]) [0, 1, 2, 3, 4, 5] rfl ?_
        exact hk
      · exact absurd c_43 (by rw [g3, g6, hcell c9 g1 x9 g2]; exact nI_64ne g1 hi (by omega))
  | succ e ih =>
    intro x hxe
    have rC := (fr (b + 32) (by omega)).trans hchk
    have rT : tO G h t1 ((List.range 16).flatMap Lc) := H1.kept (fun a p1 p2 => fr a (by omega))
    obtain ⟨sx9, sro, sod, sst, sus, sov, shm, sw, hlen, ⟨s0, s1, s2, s3, s4⟩, s5⟩ := id rT
    have hb16 : ((List.range 16).flatMap Lc).length = bgL Lc 16 := rfl
    have hbs := bgL_s Lc i
    have hb1 := bgL_m (Lc := Lc) (show i + 1 ≤ 16 by omega)
    obtain ⟨g5, g6⟩ := bgL_get (n := 16) (c := i) (x := x) (Lc := Lc) hi (by omega)
    refine v_iload dX1_layOut_22 1 rfl ?_
    refine v_aload_n dX1_layOut_24 rfl 4 rfl ?_
    refine v_getf 4 (ci := 8) (C := RX10) (T := TX10) (N := 7) rfl iwX1_layOut_X10 (Nat.le_of_ble_eq_true rfl) (by decide +kernel) dX1_layOut_25 (by first | with_reducible assumption) rfl ?_
    refine v_icmp_ge (tgt := 52) dX1_layOut_28 (by decide) (fun c_28 => ?_) (fun c_28 => ?_)
    · exact absurd c_28 (nI_ge (show bgL Lc i + x < ((List.range 16).flatMap Lc).length by omega) (by omega))
    · refine v_aload_n dX1_layOut_31 rfl 4 rfl ?_
      refine v_iload dX1_layOut_32 1 rfl ?_
      refine v_bipush (v := 7) dX1_layOut_34 (by decide) ?_
      refine v_callVq (M' := mX10_value) (n := 2) (As := [_, _]) (ci := 8) (r := (RX10, TX10, 7)) gX1_layOut_X10_value rfl (by decide +kernel) ⟨(Nat.le_of_ble_eq_true rfl), (Nat.le_of_ble_eq_true rfl)⟩ rfl rfl dX1_layOut_36 rfl ⟨(Nat.le_of_ble_eq_true rfl), (Nat.le_of_ble_eq_true rfl)⟩ (Nat.le_of_ble_eq_true rfl) (by first | with_reducible assumption) rfl (c_tOv G _ _ t1 _ rT (bgL Lc i + x) 7 g5 (by decide) (by decide)) (fun v9 h9 y9 hq => v_pq hq ?_)
      refine v_iload dX1_layOut_39 0 rfl ?_
      refine v_i2l dX1_layOut_41 rfl ?_
      refine v_lcmp_ne (tgt := 52) dX1_layOut_42 dX1_layOut_43 (by decide) (fun c_43 => ?_) (fun c_43 => ?_)
      · exact absurd (by rw [g6]; exact hcell i hi x (by omega)) c_43
      · refine v_iinc (j := 1) (L' := [(4, _), (5, _), (3, _), (2, _), (1, _), (0, _)]) (v := nI (bgL Lc i + (x + 1))) dX1_layOut_46 rfl (nI_1 _) (Nat.le_of_ble_eq_true rfl) rfl ?_
        refine v_goto (tgt := 22) dX1_layOut_49 (by decide) ?_
        refine v_sub (L' := [(5, _), (4, _), (3, _), (2, _), (1, _), (0, _)]) [1, 0, 2, 3, 4, 5] rfl ?_
        exact ih (x + 1) (by omega)

set_option maxHeartbeats 4000000 in
set_option maxRecDepth 100000 in
theorem l_loO (G : sv_G) (Qr : Option Value → sv_h → Nat → Prop) (h0 : sv_h) (z b : Nat) (c4 c5 : Value) (hchk : h0 (b + 32) = some (.inr (0, [.ref (b + 1), .ref (b + 35), .ref (b + 33), .ref (b + 34), c4, c5]))) (Lc : Nat → List (List Int64)) (t1 t2 : Nat) (hta : b + 204 ≤ t1 ∧ t1 + 4 ≤ b + 220) (H1 : tO G h0 t1 ((List.range 16).flatMap Lc)) (hcell : ∀ c, c < 16 → ∀ x, x < (Lc c).length → ((Lc c).getD x []).getD 7 0 = (nI c).toInt64) (cl : Int32) (hk : ∀ (h : sv_h) (fb : Nat → Int32), (∀ a, a ≠ b + 34 → h a = h0 a) → ab_I G h (b + 34) 17 fb → (∀ c, c < 16 → fb c = nI (bgL Lc c)) → V G mX1_layOut (sv_MQ G mX1_layOut Qr) 58 [(4, .int (nI (bgL Lc 16))), (3, .ref t2), (2, .int cl), (1, .ref t1), (0, .ref (b + 32))] [] h z 0 0) : ∀ (e i : Nat) (h : sv_h) (fb : Nat → Int32), i + e = 16 → (∀ a, a ≠ b + 34 → h a = h0 a) → ab_I G h (b + 34) 17 fb → (∀ c, c < i → fb c = nI (bgL Lc c)) → V G mX1_layOut (sv_MQ G mX1_layOut Qr) 6 [(5, .int (nI i)), (4, .int (nI (bgL Lc i))), (3, .ref t2), (2, .int cl), (1, .ref t1), (0, .ref (b + 32))] [] h z 0 0 := by
  intro e
  induction e with
  | zero =>
    intro i h fb hie fr h34 hfb
    have rC := (fr (b + 32) (by omega)).trans hchk
    have rT : tO G h t1 ((List.range 16).flatMap Lc) := H1.kept (fun a p1 p2 => fr a (by omega))
    obtain ⟨sx9, sro, sod, sst, sus, sov, shm, sw, hlen, ⟨s0, s1, s2, s3, s4⟩, s5⟩ := id rT
    have hb16 : ((List.range 16).flatMap Lc).length = bgL Lc 16 := rfl
    have e9 : i = 16 := by omega
    subst e9
    refine v_iload dX1_layOut_6 0 rfl ?_
    refine v_bipush (v := 16) dX1_layOut_8 (by decide) ?_
    refine v_icmp_ge (tgt := 58) dX1_layOut_10 (by decide) (fun c_10 => ?_) (fun c_10 => ?_)
    · refine v_sub (L' := [(4, _), (3, _), (2, _), (1, _), (0, _)]) [1, 2, 3, 4, 5] rfl ?_
      exact hk h fb fr h34 hfb
    · exact absurd (by decide) c_10
  | succ e ih =>
    intro i h fb hie fr h34 hfb
    have rC := (fr (b + 32) (by omega)).trans hchk
    have rT : tO G h t1 ((List.range 16).flatMap Lc) := H1.kept (fun a p1 p2 => fr a (by omega))
    obtain ⟨sx9, sro, sod, sst, sus, sov, shm, sw, hlen, ⟨s0, s1, s2, s3, s4⟩, s5⟩ := id rT
    have hb16 : ((List.range 16).flatMap Lc).length = bgL Lc 16 := rfl
    have hi : i < 16 := by omega
    have hb1 := bgL_m (Lc := Lc) (show i ≤ 16 by omega)
    refine v_iload dX1_layOut_6 0 rfl ?_
    refine v_bipush (v := 16) dX1_layOut_8 (by decide) ?_
    refine v_icmp_ge (tgt := 58) dX1_layOut_10 (by decide) (fun c_10 => ?_) (fun c_10 => ?_)
    · exact absurd c_10 (nI_ge (a := i) (b := 16) hi (by omega))
    · refine v_aload_n dX1_layOut_13 rfl 5 rfl ?_
      refine v_getf 3 (ci := 0) (C := RX1) (T := TX1) (N := 6) rfl iwX1_layOut_X1 (Nat.le_of_ble_eq_true rfl) (by decide +kernel) dX1_layOut_14 (by first | with_reducible assumption) rfl ?_
      refine v_iload dX1_layOut_17 0 rfl ?_
      refine v_iload dX1_layOut_19 1 rfl ?_
      refine v_iast dX1_layOut_21 (by first | with_reducible assumption) (vp_in_nI (by omega) (by omega)) ?_
      refine v_sub (L' := [(5, _), (4, _), (3, _), (2, _), (1, _), (0, _)]) [0, 1, 2, 3, 4, 5] rfl ?_
      rw [nI_clamp (show i < 2 ^ 31 by omega)]
      refine l_loI G Qr h0 _ b c4 c5 hchk Lc t1 t2 hta H1 hcell cl i hi _ (fun a p => (sv_un p).trans (fr a p)) ?_ (Lc i).length 0 (Nat.zero_add _)
      refine v_iinc (j := 0) (L' := [(5, _), (4, _), (3, _), (2, _), (1, _), (0, _)]) (v := nI (i + 1)) dX1_layOut_52 rfl (nI_1 _) (Nat.le_of_ble_eq_true rfl) rfl ?_
      refine v_goto (tgt := 6) dX1_layOut_55 (by decide) ?_
      refine v_sub (L' := [(5, _), (4, _), (3, _), (2, _), (1, _), (0, _)]) [0, 1, 2, 3, 4, 5] rfl ?_
      exact ih (i + 1) _ (upd fb i (nI (bgL Lc i))) (by omega) (fun a p => (sv_un p).trans (fr a p)) sv_us (fun c hc => by
        by_cases e9 : c = i
        · rw [e9]; exact if_pos rfl
        · exact (if_neg e9).trans (hfb c (by omega)))

set_option maxHeartbeats 4000000 in
set_option maxRecDepth 100000 in
theorem t_lo58 (G : sv_G) (Qr : Option Value → sv_h → Nat → Prop) (h0 : sv_h) (z b : Nat) (k : Int32) (nc np pl : Nat) (R : Nat → Bool) (hm p3 p4 pa ma sz : Nat → Nat) (ly vo ar : Nat → Int32) (mp : Nat → mvT) (N : Nat → Nat) (Z9 : sx_ G h0 b k nc np pl R hm p3 p4 pa ma sz ly vo ar mp N) (c4 c5 : Value) (hchk : h0 (b + 32) = some (.inr (0, [.ref (b + 1), .ref (b + 35), .ref (b + 33), .ref (b + 34), c4, c5]))) (hmv : ab_mvs G h0 (b + 33) 16 (b + 164)) (hm00 : ab_mv0 G h0 (b + 164)) (f34 : Nat → Int32) (h34 : ab_I G h0 (b + 34) 17 f34) (Lc : Nat → List (List Int64)) (t1 t2 : Nat) (hd : t1 + 4 ≤ t2 ∨ t2 + 4 ≤ t1) (hta : b + 204 ≤ t1 ∧ t1 + 4 ≤ b + 220) (htb : b + 204 ≤ t2 ∧ t2 + 4 ≤ b + 220) (H1 : tO G h0 t1 ((List.range 16).flatMap Lc)) (hat : ab_any G h0 t2) (hok : ∀ c, c < 16 → ∀ x, x < (Lc c).length → rok ((Lc c).getD x [])) (hcell : ∀ c, c < 16 → ∀ x, x < (Lc c).length → ((Lc c).getD x []).getD 7 0 = (nI c).toInt64) (hMB : ∀ i, i < pl → mvB mp i) (cl : Nat) (hcl : cl < nc) (hL0 : ∀ i, i < pl → gr_R pl p3 p4 cl (p3 i) → N (p4 i) = 0 → ∀ f w, lS pl p3 p4 mp Lc f (p4 i) w = []) (h : sv_h) (fb : Nat → Int32) (fr : (∀ a, a ≠ b + 34 → h a = h0 a)) (h34b : ab_I G h (b + 34) 17 fb) (hfb : (∀ c, c < 16 → fb c = nI (bgL Lc c))) (hk : ∀ (h3 : sv_h) (hm3 : Int32), tE G h3 t2 hm3 (lS pl p3 p4 mp Lc 16 cl []) → ab_mvs G h3 (b + 33) 16 (b + 164) → ab_mv0 G h3 (b + 164) → (∃ f, ab_I G h3 (b + 34) 17 f) → (∀ a, a ≠ b + 34 → ¬ (b + 164 ≤ a ∧ a < b + 180) → ¬ (t2 ≤ a ∧ a < t2 + 4) → h3 a = h0 a) → Qr (some (.int (if (lS pl p3 p4 mp Lc 16 cl []).length ≤ 1500 then 1 else 0))) h3 z) : V G mX1_layOut (sv_MQ G mX1_layOut Qr) 58 [(4, .int (nI (bgL Lc 16))), (3, .ref t2), (2, .int (nI cl)), (1, .ref t1), (0, .ref (b + 32))] [] h z 0 0 := by
  obtain ⟨fp, v1, v2⟩ := id hmv
  obtain ⟨x9, ro9, od9, st9, us9, sz9, ov9, hm9, T0, T1, T2, T3, T4⟩ := hat
  have rC := (fr (b + 32) (by omega)).trans hchk
  have rT2 := (fr t2 (by omega)).trans T1
  refine v_aload_n dX1_layOut_58 rfl 4 rfl ?_
  refine v_getf 3 (ci := 0) (C := RX1) (T := TX1) (N := 6) rfl iwX1_layOut_X1 (Nat.le_of_ble_eq_true rfl) (by decide +kernel) dX1_layOut_59 (by repeat (first | with_reducible assumption | (with_reducible refine sv_us.trans ?_; exact rfl) | with_reducible refine (sv_un (by omega)).trans ?_)) (by exact rfl) ?_
  refine v_bipush (v := 16) dX1_layOut_62 (by decide) ?_
  refine v_iload dX1_layOut_64 0 rfl ?_
  refine v_iast dX1_layOut_66 (by repeat (first | with_reducible assumption | (with_reducible refine sv_us.trans ?_; exact rfl) | with_reducible refine (sv_un (by omega)).trans ?_)) (show vp_in (nI 16) 17 from vp_in_nI (by omega) (by omega)) ?_
  refine v_aload_n dX1_layOut_67 rfl 1 rfl ?_
  refine v_callVq (M' := mX10_clear) (n := 0) (As := []) (ci := 8) (r := (RX10, TX10, 7)) gX1_layOut_X10_clear rfl (by decide +kernel) ⟨(Nat.le_of_ble_eq_true rfl), (Nat.le_of_ble_eq_true rfl)⟩ rfl rfl dX1_layOut_68 rfl ⟨(Nat.le_of_ble_eq_true rfl), (Nat.le_of_ble_eq_true rfl)⟩ (Nat.le_of_ble_eq_true rfl) (by repeat (first | with_reducible assumption | (with_reducible refine sv_us.trans ?_; exact rfl) | with_reducible refine (sv_un (by omega)).trans ?_)) rfl (c_Told_clear G _ _ t2 _ _ _ us9 sz9 ov9 hm9 ((sv_un (by omega)).trans ((fr t2 (by omega)).trans T1))) (fun v h2 z2 hq9 => ?_)
  obtain ⟨rfl, rfl, K1, K2⟩ := hq9
  have F2 : ∀ a, a ≠ b + 34 → a ≠ t2 → h2 a = h0 a := fun a p1 p2 => (K2 a p2).trans ((sv_un p1).trans (fr a p1))
  have A34 : ab_I G h2 (b + 34) 17 (upd fb 16 (nI (bgL Lc 16))) := (K2 _ (by omega)).trans sv_us
  have B34 : ∀ c, c ≤ 16 → upd fb 16 (nI (bgL Lc 16)) c = nI (bgL Lc c) := fun c hc => (by
    by_cases e9 : c = 16
    · rw [e9]; exact if_pos rfl
    · exact (if_neg e9).trans (hfb c (by omega)))
  have Z2 := Z9.kept (h1 := h2) (fun a p => F2 a (by omega) (by omega))
  have C2 := (F2 (b + 32) (by omega) (by omega)).trans hchk
  have V2 : ab_Q G h2 (b + 33) 3 16 fp := (F2 (b + 33) (by omega) (by omega)).trans v1
  have O2 : tO G h2 t1 ((List.range 16).flatMap Lc) := H1.kept (fun a p1 p2 => F2 a (by omega) (by omega))
  have E2 : tE G h2 t2 hm9 [] := ⟨x9, ro9, od9, st9, 0, 0, 0, ⟨T0, K1, (F2 _ (by omega) (by omega)).trans T2, (F2 _ (by omega) (by omega)).trans T3, (F2 _ (by omega) (by omega)).trans T4⟩, Or.inl ⟨Nat.zero_le _, nI_0.symm, nI_0.symm, rfl, fun k hk => absurd hk (Nat.not_lt_zero k)⟩⟩
  have P2 : lp_ b mp h2 h2 t2 [] := ⟨fun i hi => (by obtain ⟨_, y0, y1, y2, y3, e⟩ := v2 i hi; exact ⟨y0, y1, y2, y3, (F2 _ (by omega) (by omega)).trans e⟩), fun i hi => (by rw [Nat.le_zero.mp hi]; exact (F2 _ (by omega) (by omega)).trans (hm00.trans mvC_I.symm)), fun _ _ _ => rfl⟩
  have hct := c_below G h2 z2 b k nc np pl R hm p3 p4 pa ma sz ly vo ar mp N Z2 c4 c5 C2 fp V2 (fun i hi => (v2 i hi).1) Lc _ A34 B34 t1 t2 hd hta htb O2 hok hMB cl hL0 15 [] cl [] h2 hm9 rfl (fun i hi => absurd hi (List.not_mem_nil)) hcl (fun S9 s0 _ => s0) P2 E2
  rw [show nI ([] : List Nat).length = 0 from nI_0] at hct
  refine v_aload_n dX1_layOut_71 rfl 4 rfl ?_
  refine v_aload_n dX1_layOut_72 rfl 3 rfl ?_
  refine v_iload_n dX1_layOut_73 rfl 2 rfl ?_
  refine v_iconst (v := 0) dX1_layOut_74 (by decide) ?_
  refine v_aload_n dX1_layOut_75 rfl 1 rfl ?_
  refine v_callVq (M' := mLb 15) (n := 4) (As := [_, _, _, _]) (ci := 0) (r := (RX1, TX1, 6)) gX1_layOut_X1_layOutBelow rfl (by decide +kernel) ⟨(Nat.le_of_ble_eq_true rfl), (Nat.le_of_ble_eq_true rfl)⟩ rfl rfl dX1_layOut_76 rfl ⟨(Nat.le_of_ble_eq_true rfl), (Nat.le_of_ble_eq_true rfl)⟩ (Nat.le_of_ble_eq_true rfl) (by repeat (first | with_reducible assumption | (with_reducible refine sv_us.trans ?_; exact rfl) | with_reducible refine (sv_un (by omega)).trans ?_)) rfl (hct) (fun v h3 z3 hq9 => ?_)
  obtain ⟨rfl, rfl, P3, ⟨hm3, E3⟩⟩ := hq9
  rw [List.nil_append] at E3
  obtain ⟨ex9, eus9, esz9, eov9, eht9, eho9⟩ := E3.ov
  refine v_aload_n dX1_layOut_79 rfl 1 rfl ?_
  refine v_getf 5 (ci := 8) (C := RX10) (T := TX10) (N := 7) rfl iwX1_layOut_X10 (Nat.le_of_ble_eq_true rfl) (by decide +kernel) dX1_layOut_80 (by repeat (first | with_reducible assumption | (with_reducible refine sv_us.trans ?_; exact rfl) | with_reducible refine (sv_un (by omega)).trans ?_)) (by exact rfl) ?_
  refine v_if_ne (tgt := 90) dX1_layOut_83 (by decide) (fun c_83 => ?_) (fun c_83 => ?_)
  · refine v_iconst (v := 0) dX1_layOut_90 (by decide) ?_
    exact v_iret rfl dX1_layOut_91 (Nat.le_of_ble_eq_true rfl) (Nat.le_of_ble_eq_true rfl) rfl (by
          have hk9 := hk h3 hm3 E3 ⟨fp, (P3.2.2 _ (by omega) (by omega)).trans V2, fun j hj => ⟨(v2 j hj).1, P3.1 j hj⟩⟩ (by have := P3.2.1 0 (Nat.le_refl 0); exact this.trans mvC_I) ⟨_, (P3.2.2 _ (by omega) (by omega)).trans A34⟩ (fun a p1 p2 p3_ => (P3.2.2 a p2 p3_).trans (F2 a p1 (by omega)))
          first
            | (have c9 : eov9 = 0 := c_83
               rcases eho9 with ⟨_, e9⟩ | ⟨e8, _⟩
               · rw [if_pos e9] at hk9
                 exact hk9
               · exact absurd (e8.symm.trans c9) (by decide))
            | (have c9 : ¬ eov9 = 0 := c_83
               rcases eho9 with ⟨e8, _⟩ | ⟨_, e9, _⟩
               · exact absurd e8 c9
               · rw [if_neg (Nat.not_le.mpr e9)] at hk9
                 exact hk9))
  · refine v_iconst (v := 1) dX1_layOut_86 (by decide) ?_
    refine v_goto (tgt := 91) dX1_layOut_87 (by decide) ?_
    exact v_iret rfl dX1_layOut_91 (Nat.le_of_ble_eq_true rfl) (Nat.le_of_ble_eq_true rfl) rfl (by
          have hk9 := hk h3 hm3 E3 ⟨fp, (P3.2.2 _ (by omega) (by omega)).trans V2, fun j hj => ⟨(v2 j hj).1, P3.1 j hj⟩⟩ (by have := P3.2.1 0 (Nat.le_refl 0); exact this.trans mvC_I) ⟨_, (P3.2.2 _ (by omega) (by omega)).trans A34⟩ (fun a p1 p2 p3_ => (P3.2.2 a p2 p3_).trans (F2 a p1 (by omega)))
          first
            | (have c9 : eov9 = 0 := c_83
               rcases eho9 with ⟨_, e9⟩ | ⟨e8, _⟩
               · rw [if_pos e9] at hk9
                 exact hk9
               · exact absurd (e8.symm.trans c9) (by decide))
            | (have c9 : ¬ eov9 = 0 := c_83
               rcases eho9 with ⟨e8, _⟩ | ⟨_, e9, _⟩
               · exact absurd e8 c9
               · rw [if_neg (Nat.not_le.mpr e9)] at hk9
                 exact hk9))

set_option maxHeartbeats 4000000 in
set_option maxRecDepth 100000 in
theorem c_layOut (G : sv_G) (h0 : sv_h) (z b : Nat) (k : Int32) (nc np pl : Nat) (R : Nat → Bool) (hm p3 p4 pa ma sz : Nat → Nat) (ly vo ar : Nat → Int32) (mp : Nat → mvT) (N : Nat → Nat) (Z9 : sx_ G h0 b k nc np pl R hm p3 p4 pa ma sz ly vo ar mp N) (c4 c5 : Value) (hchk : h0 (b + 32) = some (.inr (0, [.ref (b + 1), .ref (b + 35), .ref (b + 33), .ref (b + 34), c4, c5]))) (hmv : ab_mvs G h0 (b + 33) 16 (b + 164)) (hm00 : ab_mv0 G h0 (b + 164)) (f34 : Nat → Int32) (h34 : ab_I G h0 (b + 34) 17 f34) (Lc : Nat → List (List Int64)) (t1 t2 : Nat) (hd : t1 + 4 ≤ t2 ∨ t2 + 4 ≤ t1) (hta : b + 204 ≤ t1 ∧ t1 + 4 ≤ b + 220) (htb : b + 204 ≤ t2 ∧ t2 + 4 ≤ b + 220) (H1 : tO G h0 t1 ((List.range 16).flatMap Lc)) (hat : ab_any G h0 t2) (hok : ∀ c, c < 16 → ∀ x, x < (Lc c).length → rok ((Lc c).getD x [])) (hcell : ∀ c, c < 16 → ∀ x, x < (Lc c).length → ((Lc c).getD x []).getD 7 0 = (nI c).toInt64) (hMB : ∀ i, i < pl → mvB mp i) (cl : Nat) (hcl : cl < nc) (hL0 : ∀ i, i < pl → gr_R pl p3 p4 cl (p3 i) → N (p4 i) = 0 → ∀ f w, lS pl p3 p4 mp Lc f (p4 i) w = []) : CT G mX1_layOut [.ref (b + 32), .ref t1, .int (nI cl), .ref t2] h0 z (fun v h3 z3 => z3 = z ∧ v = some (.int (if (lS pl p3 p4 mp Lc 16 cl []).length ≤ 1500 then 1 else 0)) ∧ (∃ hm3 : Int32, tE G h3 t2 hm3 (lS pl p3 p4 mp Lc 16 cl [])) ∧ ab_mvs G h3 (b + 33) 16 (b + 164) ∧ ab_mv0 G h3 (b + 164) ∧ (∃ f, ab_I G h3 (b + 34) 17 f) ∧ ∀ a, a ≠ b + 34 → ¬ (b + 164 ≤ a ∧ a < b + 180) → ¬ (t2 ≤ a ∧ a < t2 + 4) → h3 a = h0 a) := by
  refine CT.of (by decide +kernel) rfl rfl (Nat.le_of_ble_eq_true rfl) ?_
  refine v_iconst (v := 0) dX1_layOut_0 (by decide) ?_
  refine v_istore (L' := [(4, _), (0, _), (1, _), (2, _), (3, _)]) dX1_layOut_1 (Nat.le_of_ble_eq_true rfl) rfl ?_
  refine v_iconst (v := 0) dX1_layOut_3 (by decide) ?_
  refine v_istore (L' := [(5, _), (4, _), (0, _), (1, _), (2, _), (3, _)]) dX1_layOut_4 (Nat.le_of_ble_eq_true rfl) rfl ?_
  refine v_sub (L' := [(5, _), (4, _), (3, _), (2, _), (1, _), (0, _)]) [0, 1, 5, 4, 3, 2] rfl ?_
  exact l_loO G _ h0 _ b c4 c5 hchk Lc t1 t2 hta H1 hcell (nI cl) (fun h9 fb9 a1 a2 a3 => t_lo58 G _ h0 _ b k nc np pl R hm p3 p4 pa ma sz ly vo ar mp N Z9 c4 c5 hchk hmv hm00 f34 h34 Lc t1 t2 hd hta htb H1 hat hok hcell hMB cl hcl hL0 h9 fb9 a1 a2 a3 (fun h3 hm3 d1 d2 d3 d4 d5 => ⟨rfl, rfl, ⟨hm3, d1⟩, d2, d3, d4, d5⟩)) 16 0 h0 f34 rfl (fun _ _ => rfl) h34 (fun c hc => absurd hc (Nat.not_lt_zero c))

