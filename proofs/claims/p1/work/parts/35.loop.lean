theorem sv_pos {L : Nat} (hL : L ≤ 4609) (h : ¬ nI L ≤ (0 : Int32)) : 0 < L := by
  rcases Nat.eq_zero_or_pos L with q | q
  · exact absurd (by rw [q]; decide) h
  · exact q
theorem sv_npos {L : Nat} (hL : L ≤ 4609) (h : nI L ≤ (0 : Int32)) : ¬ 0 < L := fun q => absurd h (nI_nle q (by omega))
set_option maxHeartbeats 4000000 in
set_option maxRecDepth 100000 in
theorem c_Lcell (G : sv_G) (hL : G.2.2.2.2.2.1 ≤ 4609) (h : sv_h) (z : Nat) : CT G mL_cell [.ref (G.2.2.2.2.1 100), .int 0] h z (fun v h1 z1 => (∃ l : Int32, v = some (.int l) ∧ l = (if 0 < G.2.2.2.2.2.1 then G.2.2.2.2.2.2 0 else 0)) ∧ h1 = h ∧ z1 = z) := by
  refine CT.of (by decide +kernel) rfl rfl (Nat.le_of_ble_eq_true rfl) ?_
  refine v_iload_n dL_cell_0 rfl 1 rfl ?_
  refine v_aload_n dL_cell_1 rfl 0 rfl ?_
  refine v_slen (v := nI G.2.2.2.2.2.1) dL_cell_2 rfl ?_
  refine v_icmp_ge (tgt := 12) dL_cell_3 (by decide) (fun c_3 => ?_) (fun c_3 => ?_)
  · refine v_iconst (v := 0) dL_cell_12 (by decide) ?_
    exact v_iret rfl dL_cell_13 (Nat.le_of_ble_eq_true rfl) (Nat.le_of_ble_eq_true rfl) rfl ⟨⟨_, rfl, by rw [if_neg (sv_npos hL c_3)]⟩, rfl, rfl⟩
  · refine v_aload_n dL_cell_6 rfl 0 rfl ?_
    refine v_iload_n dL_cell_7 rfl 1 rfl ?_
    refine v_sld dL_cell_8 (by rw [← nI_0]; exact vp_in_nI (sv_pos hL c_3) (by omega)) ?_
    refine v_goto (tgt := 13) dL_cell_9 (by decide) ?_
    exact v_iret rfl dL_cell_13 (Nat.le_of_ble_eq_true rfl) (Nat.le_of_ble_eq_true rfl) rfl ⟨⟨_, rfl, by rw [if_pos (sv_pos hL c_3), sb_cl0]⟩, rfl, rfl⟩

/-- where the law starts: its heap, its script -/
def sv_st (G : sv_G) (args : Array Value) (s : State) : Prop := s.heap.size ≤ G.2.2.2.1.size ∧ args = #[Value.ref (G.2.2.2.2.1 100)]
def PL (G : sv_G) : sv_P := fun below args s t => sv_st G args s → lw_Z below args s t
theorem v_lawret {G : sv_G} {pc : Nat} {L : List (Nat × Value)} {h : sv_h} {z ce sl : Nat} (hdg : decode code pc = .ok (.ireturn, 1)) (h1 : ce ≤ 600002) (h2 : sl ≤ 7302198) : V G mL_law (PL G) pc L [.int 1] h z ce sl := by
  intro p e s m args below meth c H locs ls C K Z hS hH hl
  by_cases hst : sv_st G args s
  · obtain ⟨g1, rfl⟩ := id hst
    have k : W p G.1 e room_1 s m #[Value.ref (G.2.2.2.2.1 100)] below meth c H locs ce sl (lw_Z below #[Value.ref (G.2.2.2.2.1 100)] s) (F0 m pc ls [.int 1]) :=
      va_forget (fun q hq => Nat.le_trans g1 (hS.2.2 q hq)) (W.widen h1 h2 (lw_ret C.1 C.2.1 C.2.2.2.2.2.1 C.2.2.2.2.2.2.1 hdg))
    intro T hT X
    obtain ⟨t, a1, b1⟩ := k T hT X
    exact ⟨t, a1, fun _ => b1⟩
  · intro T hT X
    exact ⟨_, Steps.refl _, fun q => absurd q hst⟩

theorem sv_gt {L q : Nat} (hL : L ≤ 4609) (hq : q ≤ 5000) (h : L < q + 9) : nI L - 9 < nI q := by
  rw [Int32.lt_iff_toInt_lt, show (nI L - (9 : Int32)).toInt = (L : Int) - 9 from pk_sub_toInt (a := L) (b := 9) (by omega) (by omega), nI_toInt (by omega)]
  omega
set_option maxHeartbeats 4000000 in
set_option maxRecDepth 100000 in
/-- THE LAW'S LOOP, over any invariant that each call keeps, both sides answering alike -/
theorem law_loop (G : sv_G) (b m o : Nat) (I : Nat → sv_h → Nat → Prop) (hL : G.2.2.2.2.2.1 ≤ 4609) (hIn : ∀ n, sv_In G b m o (I n)) (H0 : ∀ n, 10 + 9 * n ≤ G.2.2.2.2.2.1 → OpD G mX12_unit mX13_unit b m [.int (G.2.2.2.2.2.2 (nI (1 + 9 * n) + 1).toNatClampNeg)] (I n) (I (n + 1))) (H1 : ∀ n, 10 + 9 * n ≤ G.2.2.2.2.2.1 → OpD G mX12_units mX13_units b m [.int (G.2.2.2.2.2.2 (nI (1 + 9 * n) + 1).toNatClampNeg)] (I n) (I (n + 1))) (H2 : ∀ n, 10 + 9 * n ≤ G.2.2.2.2.2.1 → OpD G mX12_read mX13_read b m [] (I n) (I (n + 1))) (H3 : ∀ n, 10 + 9 * n ≤ G.2.2.2.2.2.1 → OpI G mX12_cell mX13_cell b m o ["java/lang/IllegalStateException"] [] (I n) (I (n + 1))) (H4 : ∀ n, 10 + 9 * n ≤ G.2.2.2.2.2.1 → OpI G mX12_polygon mX13_polygon b m o ["java/lang/IndexOutOfBoundsException", "java/lang/IllegalStateException"] [.int (G.2.2.2.2.2.2 (nI (1 + 9 * n) + 1).toNatClampNeg), .int (G.2.2.2.2.2.2 (nI (1 + 9 * n) + 2).toNatClampNeg)] (I n) (I (n + 1))) (H5 : ∀ n, 10 + 9 * n ≤ G.2.2.2.2.2.1 → OpZ G mX12_corner mX13_corner b m o ["java/lang/IndexOutOfBoundsException", "java/lang/IllegalStateException", "java/lang/IllegalArgumentException"] [.int (G.2.2.2.2.2.2 (nI (1 + 9 * n) + 1).toNatClampNeg), .long (((G.2.2.2.2.2.2 (nI (1 + 9 * n) + 2).toNatClampNeg).toInt64 <<< ((32 : Int32).toInt64 &&& 63)) ||| ((G.2.2.2.2.2.2 (nI (1 + 9 * n) + 3).toNatClampNeg).toInt64 &&& 4294967295)), .long (((G.2.2.2.2.2.2 (nI (1 + 9 * n) + 4).toNatClampNeg).toInt64 <<< ((32 : Int32).toInt64 &&& 63)) ||| ((G.2.2.2.2.2.2 (nI (1 + 9 * n) + 5).toNatClampNeg).toInt64 &&& 4294967295))] (I n) (I (n + 1))) (H6 : ∀ n, 10 + 9 * n ≤ G.2.2.2.2.2.1 → OpZ G mX12_voltage mX13_voltage b m o ["java/lang/IndexOutOfBoundsException", "java/lang/IllegalArgumentException"] [.int (G.2.2.2.2.2.2 (nI (1 + 9 * n) + 1).toNatClampNeg), .long (((G.2.2.2.2.2.2 (nI (1 + 9 * n) + 2).toNatClampNeg).toInt64 <<< ((32 : Int32).toInt64 &&& 63)) ||| ((G.2.2.2.2.2.2 (nI (1 + 9 * n) + 3).toNatClampNeg).toInt64 &&& 4294967295))] (I n) (I (n + 1))) (H7 : ∀ n, 10 + 9 * n ≤ G.2.2.2.2.2.1 → OpI G mX12_place mX13_place b m o ["java/lang/IndexOutOfBoundsException", "java/lang/IllegalStateException", "java/lang/IllegalArgumentException"] [.int (G.2.2.2.2.2.2 (nI (1 + 9 * n) + 1).toNatClampNeg), .int (G.2.2.2.2.2.2 (nI (1 + 9 * n) + 2).toNatClampNeg), .long (((G.2.2.2.2.2.2 (nI (1 + 9 * n) + 3).toNatClampNeg).toInt64 <<< ((32 : Int32).toInt64 &&& 63)) ||| ((G.2.2.2.2.2.2 (nI (1 + 9 * n) + 4).toNatClampNeg).toInt64 &&& 4294967295)), .long (((G.2.2.2.2.2.2 (nI (1 + 9 * n) + 5).toNatClampNeg).toInt64 <<< ((32 : Int32).toInt64 &&& 63)) ||| ((G.2.2.2.2.2.2 (nI (1 + 9 * n) + 6).toNatClampNeg).toInt64 &&& 4294967295)), .int (G.2.2.2.2.2.2 (nI (1 + 9 * n) + 7).toNatClampNeg)] (I n) (I (n + 1))) (H8_1 : ∀ n, 10 + 9 * n ≤ G.2.2.2.2.2.1 → OpI G mX12_run mX13_run b m o ["java/lang/IndexOutOfBoundsException", "java/lang/UnsupportedOperationException"] [.int (G.2.2.2.2.2.2 (nI (1 + 9 * n) + 1).toNatClampNeg), .int (G.2.2.2.2.2.2 (nI (1 + 9 * n) + 2).toNatClampNeg), .int 1] (I n) (I (n + 1))) (H8_0 : ∀ n, 10 + 9 * n ≤ G.2.2.2.2.2.1 → OpI G mX12_run mX13_run b m o ["java/lang/IndexOutOfBoundsException", "java/lang/UnsupportedOperationException"] [.int (G.2.2.2.2.2.2 (nI (1 + 9 * n) + 1).toNatClampNeg), .int (G.2.2.2.2.2.2 (nI (1 + 9 * n) + 2).toNatClampNeg), .int 0] (I n) (I (n + 1))) (H9 : ∀ n, 10 + 9 * n ≤ G.2.2.2.2.2.1 → OpJ G mX12_violation mX13_violation b m o ["java/lang/IndexOutOfBoundsException"] [.int (G.2.2.2.2.2.2 (nI (1 + 9 * n) + 1).toNatClampNeg), .int (G.2.2.2.2.2.2 (nI (1 + 9 * n) + 2).toNatClampNeg)] (I n) (I (n + 1))) (H10 : ∀ n, 10 + 9 * n ≤ G.2.2.2.2.2.1 → OpI G mX12_cellOf mX13_cellOf b m o ["java/lang/IndexOutOfBoundsException"] [.int (G.2.2.2.2.2.2 (nI (1 + 9 * n) + 1).toNatClampNeg)] (I n) (I (n + 1))) (H11 : ∀ n, 10 + 9 * n ≤ G.2.2.2.2.2.1 → OpZ G mX12_waive mX13_waive b m o ["java/lang/IndexOutOfBoundsException", "java/lang/IllegalStateException"] [.int (G.2.2.2.2.2.2 (nI (1 + 9 * n) + 1).toNatClampNeg)] (I n) (I (n + 1))) (H12 : ∀ n, 10 + 9 * n ≤ G.2.2.2.2.2.1 → OpI G mX12_changed mX13_changed b m o ["java/lang/IllegalStateException", "java/lang/IllegalArgumentException"] [.long (((G.2.2.2.2.2.2 (nI (1 + 9 * n) + 1).toNatClampNeg).toInt64 <<< ((32 : Int32).toInt64 &&& 63)) ||| ((G.2.2.2.2.2.2 (nI (1 + 9 * n) + 2).toNatClampNeg).toInt64 &&& 4294967295)), .long (((G.2.2.2.2.2.2 (nI (1 + 9 * n) + 3).toNatClampNeg).toInt64 <<< ((32 : Int32).toInt64 &&& 63)) ||| ((G.2.2.2.2.2.2 (nI (1 + 9 * n) + 4).toNatClampNeg).toInt64 &&& 4294967295)), .long (((G.2.2.2.2.2.2 (nI (1 + 9 * n) + 5).toNatClampNeg).toInt64 <<< ((32 : Int32).toInt64 &&& 63)) ||| ((G.2.2.2.2.2.2 (nI (1 + 9 * n) + 6).toNatClampNeg).toInt64 &&& 4294967295)), .long (((G.2.2.2.2.2.2 (nI (1 + 9 * n) + 7).toNatClampNeg).toInt64 <<< ((32 : Int32).toInt64 &&& 63)) ||| ((G.2.2.2.2.2.2 (nI (1 + 9 * n) + 8).toNatClampNeg).toInt64 &&& 4294967295))] (I n) (I (n + 1))) (H13 : ∀ n, 10 + 9 * n ≤ G.2.2.2.2.2.1 → OpZ G mX12_same mX13_same b m o ["java/lang/IndexOutOfBoundsException", "java/lang/UnsupportedOperationException"] [.int (G.2.2.2.2.2.2 (nI (1 + 9 * n) + 1).toNatClampNeg), .int (G.2.2.2.2.2.2 (nI (1 + 9 * n) + 2).toNatClampNeg)] (I n) (I (n + 1))) (H14 : ∀ n, 10 + 9 * n ≤ G.2.2.2.2.2.1 → OpI G mX12_count mX13_count b m o ["java/lang/IndexOutOfBoundsException"] [.int (G.2.2.2.2.2.2 (nI (1 + 9 * n) + 1).toNatClampNeg)] (I n) (I (n + 1))) (H15 : ∀ n, 10 + 9 * n ≤ G.2.2.2.2.2.1 → OpI G mX12_occurrences mX13_occurrences b m o ["java/lang/IndexOutOfBoundsException", "java/lang/UnsupportedOperationException"] [.int (G.2.2.2.2.2.2 (nI (1 + 9 * n) + 1).toNatClampNeg)] (I n) (I (n + 1))) (C0 S0 : Nat) (hC : C0 + 6 * 600 ≤ 600002) (hS : S0 + 100 * 600 ≤ 7302198) :
    ∀ (k n : Nat) (h : sv_h) (z : Nat), n + k = 513 → I n h z → V G mL_law (PL G) 33 [(4, .int (nI (1 + 9 * n))), (3, .ref o), (2, .ref m), (1, .ref b), (0, .ref (G.2.2.2.2.1 100))] [] h z (C0 + 6 * n) (S0 + 100 * n) := by
  intro k
  induction k with
  | zero =>
    intro n h z hnk hi
    refine v_iload dL_law_33 0 rfl ?_
    refine v_aload_n dL_law_35 rfl 4 rfl ?_
    refine v_slen (v := nI G.2.2.2.2.2.1) dL_law_36 rfl ?_
    refine v_bipush (v := 9) dL_law_37 (by decide) ?_
    refine v_isub dL_law_39 ?_
    refine v_icmp_gt (tgt := 1434) dL_law_40 (by decide) (fun c_40 => ?_) (fun c_40 => ?_)
    · refine v_iconst (v := 1) dL_law_1434 (by decide) ?_
      exact v_lawret dL_law_1435 (by omega) (by omega)
    · exact absurd (sv_gt (L := G.2.2.2.2.2.1) (q := 1 + 9 * n) (by omega) (by omega) (by omega)) c_40
  | succ k ih =>
    intro n h z hnk hi
    refine v_iload dL_law_33 0 rfl ?_
    refine v_aload_n dL_law_35 rfl 4 rfl ?_
    refine v_slen (v := nI G.2.2.2.2.2.1) dL_law_36 rfl ?_
    refine v_bipush (v := 9) dL_law_37 (by decide) ?_
    refine v_isub dL_law_39 ?_
    refine v_icmp_gt (tgt := 1434) dL_law_40 (by decide) (fun c_40 => ?_) (fun c_40 => ?_)
    · refine v_iconst (v := 1) dL_law_1434 (by decide) ?_
      exact v_lawret dL_law_1435 (by omega) (by omega)
    · have hn : 10 + 9 * n ≤ G.2.2.2.2.2.1 := by
        rcases Nat.lt_or_ge G.2.2.2.2.2.1 (10 + 9 * n) with q | q
        · exact absurd (sv_gt (L := G.2.2.2.2.2.1) (q := 1 + 9 * n) (by omega) (by omega) (by omega)) c_40
        · exact q
      have hend : ∀ (h1 : sv_h) (z1 : Nat), I (n + 1) h1 z1 → V G mL_law (PL G) 1428 [(4, .int (nI (1 + 9 * n))), (3, .ref o), (2, .ref m), (1, .ref b), (0, .ref (G.2.2.2.2.1 100))] [] h1 z1 (C0 + 6 * n + 6) (S0 + 100 * n + 100) := by
        intro h1 z1 hi1
        refine v_iinc (j := 0) (L' := [(4, _), (3, _), (2, _), (1, _), (0, _)]) (v := nI (1 + 9 * (n + 1))) dL_law_1428 rfl (by show nI (1 + 9 * n) + nI 9 = _; rw [nI_add]; rfl) (Nat.le_of_ble_eq_true rfl) rfl ?_
        refine v_goto (tgt := 33) dL_law_1431 (by decide) ?_
        refine v_widen (ce' := C0 + 6 * (n + 1)) (sl' := S0 + 100 * (n + 1)) (by omega) (by omega) ?_
        exact ih (n + 1) h1 z1 (by omega) hi1
      refine v_aload_n dL_law_43 rfl 4 rfl ?_
      refine v_iload dL_law_44 0 rfl ?_
      refine v_sld dL_law_46 (vp_in_nI (by omega) (by omega)) ?_
      refine v_bipush (v := 15) dL_law_47 (by decide) ?_
      refine v_iand dL_law_49 ?_
      obtain ⟨j, hj, ej⟩ := pk_andE (G.2.2.2.2.2.2 (nI (1 + 9 * n)).toNatClampNeg) (m := 15) 4 (by decide)
      rw [ej]
      rcases (show j = 0 ∨ j = 1 ∨ j = 2 ∨ j = 3 ∨ j = 4 ∨ j = 5 ∨ j = 6 ∨ j = 7 ∨ j = 8 ∨ j = 9 ∨ j = 10 ∨ j = 11 ∨ j = 12 ∨ j = 13 ∨ j = 14 ∨ j = 15 by omega) with rfl | rfl | rfl | rfl | rfl | rfl | rfl | rfl | rfl | rfl | rfl | rfl | rfl | rfl | rfl | rfl
      · refine v_tableIn (off := 78) (tgt := 128) dL_law_50 (by decide) (by decide) (by decide) (by decide) ?_
        exact law_unit G (PL G) b m o (1 + 9 * n) (I n) (I (n + 1)) hL (by omega) (hIn n) (H0 n hn) h z _ _ (by omega) (by omega) (fun h1 z1 hi1 => hend h1 z1 hi1) hi
      · refine v_tableIn (off := 103) (tgt := 153) dL_law_50 (by decide) (by decide) (by decide) (by decide) ?_
        exact law_units G (PL G) b m o (1 + 9 * n) (I n) (I (n + 1)) hL (by omega) (hIn n) (H1 n hn) h z _ _ (by omega) (by omega) (fun h1 z1 hi1 => hend h1 z1 hi1) hi
      · refine v_tableIn (off := 128) (tgt := 178) dL_law_50 (by decide) (by decide) (by decide) (by decide) ?_
        exact law_read G (PL G) b m o (1 + 9 * n) (I n) (I (n + 1)) hL (by omega) (hIn n) (H2 n hn) h z _ _ (by omega) (by omega) (fun h1 z1 hi1 => hend h1 z1 hi1) hi
      · refine v_tableIn (off := 141) (tgt := 191) dL_law_50 (by decide) (by decide) (by decide) (by decide) ?_
        exact law_cell G (PL G) b m o (1 + 9 * n) (I n) (I (n + 1)) hL (by omega) (hIn n) (H3 n hn) h z _ _ (by omega) (by omega) (fun h1 z1 hi1 => hend h1 z1 hi1) hi
      · refine v_tableIn (off := 185) (tgt := 235) dL_law_50 (by decide) (by decide) (by decide) (by decide) ?_
        exact law_polygon G (PL G) b m o (1 + 9 * n) (I n) (I (n + 1)) hL (by omega) (hIn n) (H4 n hn) h z _ _ (by omega) (by omega) (fun h1 z1 hi1 => hend h1 z1 hi1) hi
      · refine v_tableIn (off := 253) (tgt := 303) dL_law_50 (by decide) (by decide) (by decide) (by decide) ?_
        exact law_corner G (PL G) b m o (1 + 9 * n) (I n) (I (n + 1)) hL (by omega) (hIn n) (H5 n hn) h z _ _ (by omega) (by omega) (fun h1 z1 hi1 => hend h1 z1 hi1) hi
      · refine v_tableIn (off := 404) (tgt := 454) dL_law_50 (by decide) (by decide) (by decide) (by decide) ?_
        exact law_voltage G (PL G) b m o (1 + 9 * n) (I n) (I (n + 1)) hL (by omega) (hIn n) (H6 n hn) h z _ _ (by omega) (by omega) (fun h1 z1 hi1 => hend h1 z1 hi1) hi
      · refine v_tableIn (off := 511) (tgt := 561) dL_law_50 (by decide) (by decide) (by decide) (by decide) ?_
        exact law_place G (PL G) b m o (1 + 9 * n) (I n) (I (n + 1)) hL (by omega) (hIn n) (H7 n hn) h z _ _ (by omega) (by omega) (fun h1 z1 hi1 => hend h1 z1 hi1) hi
      · refine v_tableIn (off := 683) (tgt := 733) dL_law_50 (by decide) (by decide) (by decide) (by decide) ?_
        exact law_run G (PL G) b m o (1 + 9 * n) (I n) (I (n + 1)) hL (by omega) (hIn n) (H8_1 n hn) (H8_0 n hn) h z _ _ (by omega) (by omega) (fun h1 z1 hi1 => hend h1 z1 hi1) hi
      · refine v_tableIn (off := 779) (tgt := 829) dL_law_50 (by decide) (by decide) (by decide) (by decide) ?_
        exact law_violation G (PL G) b m o (1 + 9 * n) (I n) (I (n + 1)) hL (by omega) (hIn n) (H9 n hn) h z _ _ (by omega) (by omega) (fun h1 z1 hi1 => hend h1 z1 hi1) hi
      · refine v_tableIn (off := 846) (tgt := 896) dL_law_50 (by decide) (by decide) (by decide) (by decide) ?_
        exact law_cellOf G (PL G) b m o (1 + 9 * n) (I n) (I (n + 1)) hL (by omega) (hIn n) (H10 n hn) h z _ _ (by omega) (by omega) (fun h1 z1 hi1 => hend h1 z1 hi1) hi
      · refine v_tableIn (off := 902) (tgt := 952) dL_law_50 (by decide) (by decide) (by decide) (by decide) ?_
        exact law_waive G (PL G) b m o (1 + 9 * n) (I n) (I (n + 1)) hL (by omega) (hIn n) (H11 n hn) h z _ _ (by omega) (by omega) (fun h1 z1 hi1 => hend h1 z1 hi1) hi
      · refine v_tableIn (off := 965) (tgt := 1015) dL_law_50 (by decide) (by decide) (by decide) (by decide) ?_
        exact law_changed G (PL G) b m o (1 + 9 * n) (I n) (I (n + 1)) hL (by omega) (hIn n) (H12 n hn) h z _ _ (by omega) (by omega) (fun h1 z1 hi1 => hend h1 z1 hi1) hi
      · refine v_tableIn (off := 1191) (tgt := 1241) dL_law_50 (by decide) (by decide) (by decide) (by decide) ?_
        exact law_same G (PL G) b m o (1 + 9 * n) (I n) (I (n + 1)) hL (by omega) (hIn n) (H13 n hn) h z _ _ (by omega) (by omega) (fun h1 z1 hi1 => hend h1 z1 hi1) hi
      · refine v_tableIn (off := 1266) (tgt := 1316) dL_law_50 (by decide) (by decide) (by decide) (by decide) ?_
        exact law_count G (PL G) b m o (1 + 9 * n) (I n) (I (n + 1)) hL (by omega) (hIn n) (H14 n hn) h z _ _ (by omega) (by omega) (fun h1 z1 hi1 => hend h1 z1 hi1) hi
      · refine v_tableIn (off := 1322) (tgt := 1372) dL_law_50 (by decide) (by decide) (by decide) (by decide) ?_
        exact law_occurrences G (PL G) b m o (1 + 9 * n) (I n) (I (n + 1)) hL (by omega) (hIn n) (H15 n hn) h z _ _ (by omega) (by omega) (fun h1 z1 hi1 => hend h1 z1 hi1) hi

