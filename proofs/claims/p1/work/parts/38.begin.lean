theorem tw_1418 : Cond.arrayOver (.object "RuleDeck$Move") ∈ lw_tbl := List.mem_append_right _ (List.mem_append_left _ (List.mem_of_getElem? (i := 49) rfl))
theorem tw_1419 : Cond.arrayOver (.object "RuleDeck$Polygon") ∈ lw_tbl := List.mem_append_right _ (List.mem_append_left _ (List.mem_of_getElem? (i := 47) rfl))
theorem tw_1420 : Cond.arrayOver (.object "RuleDeck$Rule") ∈ lw_tbl := List.mem_append_right _ (List.mem_append_left _ (List.mem_of_getElem? (i := 123) rfl))
theorem tw_1421 : Cond.methodLinkNest "RuleDeck" 21 ⟨"RuleDeck$Tape", "<init>", "()V"⟩ "RuleDeck" ∈ lw_tbl := List.mem_append_right _ (List.mem_append_left _ (List.mem_of_getElem? (i := 102) rfl))
theorem tw_1422 : Cond.methodLinkNest "RuleDeck" 46 ⟨"RuleDeck$Waivers", "<init>", "()V"⟩ "RuleDeck" ∈ lw_tbl := List.mem_append_right _ (List.mem_append_right _ (List.mem_append_left _ (List.mem_of_getElem? (i := 62) rfl)))
theorem tw_1423 : Cond.methodLinkNest "RuleDeck" 57 ⟨"RuleDeck$Rule", "<init>", "()V"⟩ "RuleDeck" ∈ lw_tbl := List.mem_append_right _ (List.mem_append_right _ (List.mem_append_left _ (List.mem_of_getElem? (i := 79) rfl)))
theorem tw_1424 : Cond.methodLinkNest "RuleDeck" 60 ⟨"RuleDeck$Told", "<init>", "()V"⟩ "RuleDeck" ∈ lw_tbl := List.mem_append_right _ (List.mem_append_right _ (List.mem_append_left _ (List.mem_of_getElem? (i := 82) rfl)))
theorem tw_1425 : Cond.methodLinkNest "RuleDeck$Checker" 34 ⟨"RuleDeck$Move", "<init>", "()V"⟩ "RuleDeck" ∈ lw_tbl := List.mem_append_right _ (List.mem_append_right _ (List.mem_append_left _ (List.mem_of_getElem? (i := 40) rfl)))
theorem tw_1426 : Cond.methodLinkNest "RuleDeck$Layout" 52 ⟨"RuleDeck$Move", "<init>", "()V"⟩ "RuleDeck" ∈ lw_tbl := List.mem_append_right _ (List.mem_append_right _ (List.mem_append_right _ (List.mem_append_right _ (List.mem_append_left _ (List.mem_of_getElem? (i := 96) rfl)))))
theorem tw_1427 : Cond.methodLinkNest "RuleDeck$Reader" 25 ⟨"RuleDeck$Rule", "<init>", "()V"⟩ "RuleDeck" ∈ lw_tbl := List.mem_append_right _ (List.mem_append_left _ (List.mem_of_getElem? (i := 125) rfl))
theorem tw_1428 : Cond.methodLinkNest "RuleDeck$Scene" 55 ⟨"RuleDeck$Move", "<init>", "()V"⟩ "RuleDeck" ∈ lw_tbl := List.mem_append_right _ (List.mem_append_left _ (List.mem_of_getElem? (i := 213) rfl))
theorem tw_1429 : Cond.fieldLinkNest "RuleDeck$Reader" 71 "RuleDeck$Kind" "ALL" "[LRuleDeck$Kind;" "RuleDeck" ∈ lw_tbl := List.mem_append_right _ (List.mem_append_right _ (List.mem_append_left _ (List.mem_of_getElem? (i := 209) rfl)))
theorem tw_1430 : Cond.castable "java/lang/IndexOutOfBoundsException" "java/lang/IndexOutOfBoundsException" ∈ lw_tbl := List.mem_append_right _ (List.mem_append_right _ (List.mem_append_right _ (List.mem_append_left _ (List.mem_of_getElem? (i := 157) rfl))))
theorem tw_1431 : Cond.castable "java/lang/IllegalStateException" "java/lang/IllegalStateException" ∈ lw_tbl := List.mem_append_right _ (List.mem_append_right _ (List.mem_append_right _ (List.mem_append_left _ (List.mem_of_getElem? (i := 77) rfl))))
theorem tw_1432 : Cond.castable "java/lang/IllegalArgumentException" "java/lang/IllegalArgumentException" ∈ lw_tbl := List.mem_append_right _ (List.mem_append_right _ (List.mem_append_right _ (List.mem_append_right _ (List.mem_append_left _ (List.mem_of_getElem? (i := 8) rfl)))))
theorem tw_1433 : Cond.castable "java/lang/UnsupportedOperationException" "java/lang/UnsupportedOperationException" ∈ lw_tbl := List.mem_append_right _ (List.mem_append_right _ (List.mem_append_right _ (List.mem_append_right _ (List.mem_append_right _ (List.mem_append_left _ (List.mem_of_getElem? (i := 107) rfl))))))
theorem tw_1434 : Cond.declares ⟨"java/lang/RuntimeException", "<init>", "(Ljava/lang/String;)V"⟩ ∈ lw_tbl := List.mem_append_right _ (List.mem_append_right _ (List.mem_append_right _ (List.mem_append_left _ (List.mem_of_getElem? (i := 79) rfl))))
theorem tw_1435 : Cond.declares ⟨"java/lang/Exception", "<init>", "(Ljava/lang/String;)V"⟩ ∈ lw_tbl := List.mem_append_right _ (List.mem_append_right _ (List.mem_append_right _ (List.mem_append_left _ (List.mem_of_getElem? (i := 81) rfl))))
theorem tw_1436 : Cond.declares ⟨"java/lang/Throwable", "<init>", "(Ljava/lang/String;)V"⟩ ∈ lw_tbl := List.mem_append_right _ (List.mem_append_right _ (List.mem_append_right _ (List.mem_append_left _ (List.mem_of_getElem? (i := 83) rfl))))
theorem tw_1437 : Cond.laysStatic "RuleDeck$Kind" "WIDTH" "LRuleDeck$Kind;" ∈ lw_tbl := List.mem_append_right _ (List.mem_append_left _ (List.mem_of_getElem? (i := 130) rfl))
theorem tw_1438 : Cond.initialized "RuleDeck$Kind" ∈ lw_tbl := List.mem_append_right _ (List.mem_append_left _ (List.mem_of_getElem? (i := 7) rfl))
theorem tw_1439 : Cond.laysStatic "RuleDeck$Kind" "DENSITY" "LRuleDeck$Kind;" ∈ lw_tbl := List.mem_append_right _ (List.mem_append_right _ (List.mem_append_right _ (List.mem_append_right _ (List.mem_append_left _ (List.mem_of_getElem? (i := 207) rfl)))))
theorem tw_1440 : Cond.laysStatic "RuleDeck$Kind" "CORNER" "LRuleDeck$Kind;" ∈ lw_tbl := List.mem_append_right _ (List.mem_append_right _ (List.mem_append_right _ (List.mem_append_right _ (List.mem_append_left _ (List.mem_of_getElem? (i := 180) rfl)))))
theorem tw_1441 : Cond.laysStatic "RuleDeck$Kind" "ENCLOSE" "LRuleDeck$Kind;" ∈ lw_tbl := List.mem_append_right _ (List.mem_append_right _ (List.mem_append_right _ (List.mem_append_right _ (List.mem_append_left _ (List.mem_of_getElem? (i := 237) rfl)))))
theorem tw_1442 : Cond.laysStatic "java/lang/Throwable" "UNASSIGNED_STACK" "[Ljava/lang/StackTraceElement;" ∈ lw_tbl := List.mem_append_right _ (List.mem_append_right _ (List.mem_append_right _ (List.mem_append_left _ (List.mem_of_getElem? (i := 102) rfl))))
theorem tw_1443 : Cond.initialized "java/lang/Throwable" ∈ lw_tbl := List.mem_append_right _ (List.mem_append_left _ (List.mem_of_getElem? (i := 18) rfl))
theorem tw_1444 : Cond.laysStatic "java/lang/Throwable" "SUPPRESSED_SENTINEL" "Ljava/util/List;" ∈ lw_tbl := List.mem_append_right _ (List.mem_append_right _ (List.mem_append_right _ (List.mem_append_left _ (List.mem_of_getElem? (i := 104) rfl))))
theorem tw_1445 : Cond.stringRef "RuleDeck" 110 "no more cells" ∈ lw_tbl := List.mem_append_right _ (List.mem_append_right _ (List.mem_append_right _ (List.mem_append_left _ (List.mem_of_getElem? (i := 117) rfl))))
theorem tw_1446 : Cond.stringRef "RuleDeck" 123 "no such cell or layer" ∈ lw_tbl := List.mem_append_right _ (List.mem_append_right _ (List.mem_append_right _ (List.mem_append_left _ (List.mem_of_getElem? (i := 164) rfl))))
theorem tw_1447 : Cond.stringRef "RuleDeck" 129 "no more polygons" ∈ lw_tbl := List.mem_append_right _ (List.mem_append_right _ (List.mem_append_right _ (List.mem_append_left _ (List.mem_of_getElem? (i := 171) rfl))))
theorem tw_1448 : Cond.stringRef "RuleDeck" 138 "no such polygon" ∈ lw_tbl := List.mem_append_right _ (List.mem_append_right _ (List.mem_append_right _ (List.mem_append_left _ (List.mem_of_getElem? (i := 239) rfl))))
theorem tw_1449 : Cond.stringRef "RuleDeck" 149 "no more corners" ∈ lw_tbl := List.mem_append_right _ (List.mem_append_right _ (List.mem_append_right _ (List.mem_append_right _ (List.mem_append_left _ (List.mem_of_getElem? (i := 0) rfl)))))
theorem tw_1450 : Cond.stringRef "RuleDeck" 157 "a corner too far out" ∈ lw_tbl := List.mem_append_right _ (List.mem_append_right _ (List.mem_append_right _ (List.mem_append_right _ (List.mem_append_left _ (List.mem_of_getElem? (i := 15) rfl)))))
theorem tw_1451 : Cond.stringRef "RuleDeck" 168 "no such voltage" ∈ lw_tbl := List.mem_append_right _ (List.mem_append_right _ (List.mem_append_right _ (List.mem_append_right _ (List.mem_append_left _ (List.mem_of_getElem? (i := 73) rfl)))))
theorem tw_1452 : Cond.stringRef "RuleDeck" 173 "no such cell" ∈ lw_tbl := List.mem_append_right _ (List.mem_append_right _ (List.mem_append_right _ (List.mem_append_right _ (List.mem_append_left _ (List.mem_of_getElem? (i := 81) rfl)))))
theorem tw_1453 : Cond.stringRef "RuleDeck" 178 "no more places" ∈ lw_tbl := List.mem_append_right _ (List.mem_append_right _ (List.mem_append_right _ (List.mem_append_right _ (List.mem_append_left _ (List.mem_of_getElem? (i := 82) rfl)))))
theorem tw_1454 : Cond.stringRef "RuleDeck" 180 "no such place or turn" ∈ lw_tbl := List.mem_append_right _ (List.mem_append_right _ (List.mem_append_right _ (List.mem_append_right _ (List.mem_append_left _ (List.mem_of_getElem? (i := 83) rfl)))))
theorem tw_1455 : Cond.stringRef "RuleDeck" 192 "no such rule or cell" ∈ lw_tbl := List.mem_append_right _ (List.mem_append_right _ (List.mem_append_right _ (List.mem_append_right _ (List.mem_append_left _ (List.mem_of_getElem? (i := 113) rfl)))))
theorem tw_1456 : Cond.stringRef "RuleDeck" 204 "too many occurrences or violations" ∈ lw_tbl := List.mem_append_right _ (List.mem_append_right _ (List.mem_append_right _ (List.mem_append_right _ (List.mem_append_right _ (List.mem_append_left _ (List.mem_of_getElem? (i := 114) rfl))))))
theorem tw_1457 : Cond.stringRef "RuleDeck" 220 "no such violation or what" ∈ lw_tbl := List.mem_append_right _ (List.mem_append_right _ (List.mem_append_right _ (List.mem_append_right _ (List.mem_append_right _ (List.mem_append_left _ (List.mem_of_getElem? (i := 176) rfl))))))
theorem tw_1458 : Cond.stringRef "RuleDeck" 226 "no such violation" ∈ lw_tbl := List.mem_append_right _ (List.mem_append_right _ (List.mem_append_right _ (List.mem_append_right _ (List.mem_append_right _ (List.mem_append_left _ (List.mem_of_getElem? (i := 185) rfl))))))
theorem tw_1459 : Cond.stringRef "RuleDeck" 233 "no more waived violations" ∈ lw_tbl := List.mem_append_right _ (List.mem_append_right _ (List.mem_append_right _ (List.mem_append_right _ (List.mem_append_right _ (List.mem_append_left _ (List.mem_of_getElem? (i := 194) rfl))))))
theorem tw_1460 : Cond.stringRef "RuleDeck" 239 "the latest run was not flat, or there was none" ∈ lw_tbl := List.mem_append_right _ (List.mem_append_right _ (List.mem_append_right _ (List.mem_append_right _ (List.mem_append_right _ (List.mem_append_left _ (List.mem_of_getElem? (i := 207) rfl))))))
theorem tw_1461 : Cond.stringRef "RuleDeck" 241 "no such box" ∈ lw_tbl := List.mem_append_right _ (List.mem_append_right _ (List.mem_append_right _ (List.mem_append_right _ (List.mem_append_right _ (List.mem_append_left _ (List.mem_of_getElem? (i := 208) rfl))))))
theorem tw_1462 : Cond.stringRef "RuleDeck" 255 "no such what" ∈ lw_tbl := List.mem_append_right _ (List.mem_append_right _ (List.mem_append_right _ (List.mem_append_right _ (List.mem_append_right _ (List.mem_append_left _ (List.mem_of_getElem? (i := 239) rfl))))))
theorem tw_1463 : Cond.stringRef "RuleDeck" 261 "too many occurrences" ∈ lw_tbl := List.mem_append_right _ (List.mem_append_right _ (List.mem_append_right _ (List.mem_append_right _ (List.mem_append_right _ (List.mem_append_right _ (List.mem_append_left _ (List.mem_of_getElem? (i := 8) rfl)))))))
set_option maxHeartbeats 4000000 in
set_option maxRecDepth 100000 in
theorem sv_begin (l : Launch) {s : State} {args : Array Value} (hts : ∀ w ∈ lw_tbl, w.before args s = true) (hgv : (Jvm.Cond.and given_1 narrow_1).before args s = true) {b L : Nat} {xs : Nat → Int32} (hX : va_X b L xs s s.heap) (hbl : b < s.heap.size) : ∃ G : sv_G, G.1 = l ∧ G.2.2.2.1 = s.heap ∧ G.2.2.2.2.1 100 = b ∧ G.2.2.2.2.2.1 = L ∧ G.2.2.2.2.2.2 = xs ∧ sv_K G s ∧ sv_Z G s := by
  have hs := flat_of_before _ hgv
  obtain ⟨c0, i0, k0⟩ := u_known (C := RX1) (T := TX1) (N := 6) (n := 6) hts tl_wsX10 (hts _ tw_193)
  obtain ⟨c1, i1, k1⟩ := u_known (C := RX3) (T := TX3) (N := 10) (n := 10) hts tl_wsX30 (hts _ tw_205)
  obtain ⟨c2, i2, k2⟩ := u_known (C := RX4) (T := TX4) (N := 4) (n := 4) hts tl_wsX40 (hts _ tw_273)
  obtain ⟨c3, i3, k3⟩ := u_known (C := RX5) (T := TX5) (N := 10) (n := 10) hts tl_wsX50 (hts _ tw_666)
  obtain ⟨c4, i4, k4⟩ := u_known (C := RX6) (T := TX6) (N := 9) (n := 9) hts tl_wsX60 (hts _ tw_197)
  obtain ⟨c5, i5, k5⟩ := u_known (C := RX7) (T := TX7) (N := 8) (n := 8) hts tl_wsX70 (hts _ tw_232)
  obtain ⟨c6, i6, k6⟩ := u_known (C := RX8) (T := TX8) (N := 14) (n := 14) hts tl_wsX80 (hts _ tw_276)
  obtain ⟨c7, i7, k7⟩ := u_known (C := RX9) (T := TX9) (N := 2) (n := 2) hts tl_wsX90 (hts _ tw_201)
  obtain ⟨c8, i8, k8⟩ := u_known (C := RX10) (T := TX10) (N := 7) (n := 7) hts tl_wsX100 (hts _ tw_229)
  obtain ⟨c9, i9, k9⟩ := u_known (C := RX11) (T := TX11) (N := 3) (n := 3) hts tl_wsX110 (hts _ tw_189)
  obtain ⟨c10, i10, k10⟩ := u_known (C := RX12) (T := TX12) (N := 13) (n := 13) hts tl_wsX120 (hts _ tw_99)
  obtain ⟨c11, i11, k11⟩ := u_known (C := RX13) (T := TX13) (N := 71) (n := 71) hts tl_wsX130 (hts _ tw_96)
  obtain ⟨aI, bI, pI, qI, rI, tI⟩ := Cond.arrayClass_spec (hts (.arrayClass .int) tw_217)
  obtain ⟨aJ, bJ, pJ, qJ, rJ, tJ⟩ := Cond.arrayClass_spec (hts (.arrayClass .long) tw_94)
  obtain ⟨aZ, bZ, pZ, qZ, rZ, tZ⟩ := Cond.arrayClass_spec (hts (.arrayClass .boolean) tw_404)
  obtain ⟨pM, aM, bM, uM, -, rM, tM, qM⟩ := Cond.arrayOver_spec (hts (.arrayOver (.object "RuleDeck$Move")) tw_1418)
  obtain ⟨pP, aP, bP, uP, -, rP, tP, qP⟩ := Cond.arrayOver_spec (hts (.arrayOver (.object "RuleDeck$Polygon")) tw_1419)
  obtain ⟨pR, aR, bR, uR, -, rR, tR, qR⟩ := Cond.arrayOver_spec (hts (.arrayOver (.object "RuleDeck$Rule")) tw_1420)
  obtain ⟨w0, -, -, -, e0, -⟩ := Cond.exactly_spec (hs (.exactly (.static "RuleDeck$Kind" "WIDTH" "LRuleDeck$Kind;") "RuleDeck$Kind") (List.mem_of_getElem? (i := 4) rfl))
  obtain ⟨w5, -, -, -, e5, -⟩ := Cond.exactly_spec (hs (.exactly (.static "RuleDeck$Kind" "DENSITY" "LRuleDeck$Kind;") "RuleDeck$Kind") (List.mem_of_getElem? (i := 44) rfl))
  obtain ⟨w8, -, -, -, e8, -⟩ := Cond.exactly_spec (hs (.exactly (.static "RuleDeck$Kind" "CORNER" "LRuleDeck$Kind;") "RuleDeck$Kind") (List.mem_of_getElem? (i := 35) rfl))
  obtain ⟨w9, -, -, -, e9, -⟩ := Cond.exactly_spec (hs (.exactly (.static "RuleDeck$Kind" "ENCLOSE" "LRuleDeck$Kind;") "RuleDeck$Kind") (List.mem_of_getElem? (i := 68) rfl))
  have hA : ∀ q : Nat, q < s.heap.size → ¬ s.heap.size ≤ q := fun q hq => Nat.not_le.mpr hq
  refine ⟨(l, (fun k => match k with | 0 => c0 | 1 => c1 | 2 => c2 | 3 => c3 | 4 => c4 | 5 => c5 | 6 => c6 | 7 => c7 | 8 => c8 | 9 => c9 | 10 => c10 | _ => c11, fun k => match k with | 0 => i0 | 1 => i1 | 2 => i2 | 3 => i3 | 4 => i4 | 5 => i5 | 6 => i6 | 7 => i7 | 8 => i8 | 9 => i9 | 10 => i10 | _ => i11), fun k => match k with | 0 => aI | 1 => aJ | 2 => aZ | 3 => aM | 4 => aP | _ => aR, s.heap, fun k => if k = 100 then b else if k = 0 then w0 else if k = 5 then w5 else if k = 8 then w8 else w9, L, xs), rfl, rfl, rfl, rfl, rfl, ⟨⟨?_, ?_⟩, ?_, ?_, ?_, ?_, ?_, ?_, ?_, ?_⟩, ?_, ⟨?_, ?_⟩, ?_, hX, hbl⟩
  · intro k q hq
    match k, hq with
    | 0, hq => cases hq; exact k0
    | 1, hq => cases hq; exact k1
    | 2, hq => cases hq; exact k2
    | 3, hq => cases hq; exact k3
    | 4, hq => cases hq; exact k4
    | 5, hq => cases hq; exact k5
    | 6, hq => cases hq; exact k6
    | 7, hq => cases hq; exact k7
    | 8, hq => cases hq; exact k8
    | 9, hq => cases hq; exact k9
    | 10, hq => cases hq; exact k10
    | 11, hq => cases hq; exact k11
    | k + 12, hq => simp [vwCl] at hq
  · intro k q hq
    match k, hq with
    | 0, hq => cases hq; exact ⟨fun n z => ⟨fun k h => (by cases h), bI, rI, pI, tI⟩, qI⟩
    | 1, hq => cases hq; exact ⟨fun n z => ⟨fun k h => (by cases h), bJ, rJ, pJ, tJ⟩, qJ⟩
    | 2, hq => cases hq; exact ⟨fun n z => ⟨fun k h => (by cases h), bZ, rZ, pZ, tZ⟩, qZ⟩
    | 3, hq => cases hq; exact ⟨fun n z => ⟨fun k h => (by cases h), bM, rM, pM, tM⟩, bM, pM, rM, tM, uM, qM⟩
    | 4, hq => cases hq; exact ⟨fun n z => ⟨fun k h => (by cases h), bP, rP, pP, tP⟩, bP, pP, rP, tP, uP, qP⟩
    | 5, hq => cases hq; exact ⟨fun n z => ⟨fun k h => (by cases h), bR, rR, pR, tR⟩, bR, pR, rR, tR, uR, qR⟩
    | k + 6, hq => simp [sv_ty] at hq
  · intro q hq
    simp only [sv_nm, List.mem_cons, List.not_mem_nil, or_false] at hq
    rcases hq with rfl | rfl | rfl | rfl | rfl | rfl | rfl | rfl
    · exact va_Nw.of rfl (hts _ tw_1421)
    · exact va_Nw.of rfl (hts _ tw_1422)
    · exact va_Nw.of rfl (hts _ tw_1423)
    · exact va_Nw.of rfl (hts _ tw_1424)
    · exact va_Nw.of rfl (hts _ tw_1425)
    · exact va_Nw.of rfl (hts _ tw_1426)
    · exact va_Nw.of rfl (hts _ tw_1427)
    · exact va_Nw.of rfl (hts _ tw_1428)
  · exact va_Nw.of rfl (hts _ tw_1429)
  · exact va_AO.of (hts _ tw_1418)
  · exact va_AO.of (hts _ tw_1419)
  · exact va_AO.of (hts _ tw_1420)
  · intro E hE
    simp only [sv_ex, List.mem_cons, List.not_mem_nil, or_false] at hE
    rcases hE with rfl | rfl | rfl | rfl
    · exact va_Nw.of rfl (hts _ tw_1430)
    · exact va_Nw.of rfl (hts _ tw_1431)
    · exact va_Nw.of rfl (hts _ tw_1432)
    · exact va_Nw.of rfl (hts _ tw_1433)
  · intro E hE F hF hn
    simp only [sv_ex, List.mem_cons, List.not_mem_nil, or_false] at hE hF
    rcases hE with rfl | rfl | rfl | rfl <;> rcases hF with rfl | rfl | rfl | rfl
    · exact absurd rfl hn
    · exact va_Nc.of (hs (.not (.castable "java/lang/IndexOutOfBoundsException" "java/lang/IllegalStateException")) (List.mem_of_getElem? (i := 196) rfl))
    · exact va_Nc.of (hs (.not (.castable "java/lang/IndexOutOfBoundsException" "java/lang/IllegalArgumentException")) (List.mem_of_getElem? (i := 229) rfl))
    · exact va_Nc.of (hs (.not (.castable "java/lang/IndexOutOfBoundsException" "java/lang/UnsupportedOperationException")) (List.mem_of_getElem? (i := 245) rfl))
    · exact va_Nc.of (hs (.not (.castable "java/lang/IllegalStateException" "java/lang/IndexOutOfBoundsException")) (List.mem_of_getElem? (i := 212) rfl))
    · exact absurd rfl hn
    · exact va_Nc.of (hs (.not (.castable "java/lang/IllegalStateException" "java/lang/IllegalArgumentException")) (List.mem_of_getElem? (i := 228) rfl))
    · exact va_Nc.of (hs (.not (.castable "java/lang/IllegalStateException" "java/lang/UnsupportedOperationException")) (List.mem_of_getElem? (i := 244) rfl))
    · exact va_Nc.of (hs (.not (.castable "java/lang/IllegalArgumentException" "java/lang/IndexOutOfBoundsException")) (List.mem_of_getElem? (i := 214) rfl))
    · exact va_Nc.of (hs (.not (.castable "java/lang/IllegalArgumentException" "java/lang/IllegalStateException")) (List.mem_of_getElem? (i := 198) rfl))
    · exact absurd rfl hn
    · exact va_Nc.of (hs (.not (.castable "java/lang/IllegalArgumentException" "java/lang/UnsupportedOperationException")) (List.mem_of_getElem? (i := 247) rfl))
    · exact va_Nc.of (hs (.not (.castable "java/lang/UnsupportedOperationException" "java/lang/IndexOutOfBoundsException")) (List.mem_of_getElem? (i := 215) rfl))
    · exact va_Nc.of (hs (.not (.castable "java/lang/UnsupportedOperationException" "java/lang/IllegalStateException")) (List.mem_of_getElem? (i := 199) rfl))
    · exact va_Nc.of (hs (.not (.castable "java/lang/UnsupportedOperationException" "java/lang/IllegalArgumentException")) (List.mem_of_getElem? (i := 231) rfl))
    · exact absurd rfl hn
  · intro y hy
    simp only [sv_dc, List.mem_cons, List.not_mem_nil, or_false] at hy
    rcases hy with rfl | rfl | rfl
    · exact va_Nw.of rfl (hts _ tw_1434)
    · exact va_Nw.of rfl (hts _ tw_1435)
    · exact va_Nw.of rfl (hts _ tw_1436)
  · intro q hq
    simp only [sv_kc, List.mem_cons, List.not_mem_nil, or_false] at hq
    rcases hq with rfl | rfl | rfl | rfl
    · exact va_Zref (hts _ tw_1437) (hts _ tw_1438) e0 hA
    · exact va_Zref (hts _ tw_1439) (hts _ tw_1438) e5 hA
    · exact va_Zref (hts _ tw_1440) (hts _ tw_1438) e8 hA
    · exact va_Zref (hts _ tw_1441) (hts _ tw_1438) e9 hA
  · exact vx_Zqof (hts (.laysStatic "java/lang/Throwable" "UNASSIGNED_STACK" "[Ljava/lang/StackTraceElement;") tw_1442) (hts (.initialized "java/lang/Throwable") tw_1443) (hs (.isRef (.static "java/lang/Throwable" "UNASSIGNED_STACK" "[Ljava/lang/StackTraceElement;")) (List.mem_of_getElem? (i := 33) rfl)) hA
  · exact vx_Zqof (hts (.laysStatic "java/lang/Throwable" "SUPPRESSED_SENTINEL" "Ljava/util/List;") tw_1444) (hts (.initialized "java/lang/Throwable") tw_1443) (hs (.isRef (.static "java/lang/Throwable" "SUPPRESSED_SENTINEL" "Ljava/util/List;")) (List.mem_of_getElem? (i := 34) rfl)) hA
  · intro q hq
    simp only [sv_tx, List.mem_cons, List.not_mem_nil, or_false] at hq
    rcases hq with rfl | rfl | rfl | rfl | rfl | rfl | rfl | rfl | rfl | rfl | rfl | rfl | rfl | rfl | rfl | rfl | rfl | rfl | rfl
    · obtain ⟨a, -, -, -, e1, -⟩ := Cond.exactly_spec (hs (.exactly (.string "RuleDeck" 110) "java/lang/String") (List.mem_of_getElem? (i := 270) rfl))
      exact ⟨a, vk_R.of (hts (.stringRef "RuleDeck" 110 "no more cells") tw_1445) e1⟩
    · obtain ⟨a, -, -, -, e1, -⟩ := Cond.exactly_spec (hs (.exactly (.string "RuleDeck" 123) "java/lang/String") (List.mem_of_getElem? (i := 287) rfl))
      exact ⟨a, vk_R.of (hts (.stringRef "RuleDeck" 123 "no such cell or layer") tw_1446) e1⟩
    · obtain ⟨a, -, -, -, e1, -⟩ := Cond.exactly_spec (hs (.exactly (.string "RuleDeck" 129) "java/lang/String") (List.mem_of_getElem? (i := 312) rfl))
      exact ⟨a, vk_R.of (hts (.stringRef "RuleDeck" 129 "no more polygons") tw_1447) e1⟩
    · obtain ⟨a, -, -, -, e1, -⟩ := Cond.exactly_spec (hs (.exactly (.string "RuleDeck" 138) "java/lang/String") (List.mem_of_getElem? (i := 332) rfl))
      exact ⟨a, vk_R.of (hts (.stringRef "RuleDeck" 138 "no such polygon") tw_1448) e1⟩
    · obtain ⟨a, -, -, -, e1, -⟩ := Cond.exactly_spec (hs (.exactly (.string "RuleDeck" 149) "java/lang/String") (List.mem_of_getElem? (i := 351) rfl))
      exact ⟨a, vk_R.of (hts (.stringRef "RuleDeck" 149 "no more corners") tw_1449) e1⟩
    · obtain ⟨a, -, -, -, e1, -⟩ := Cond.exactly_spec (hs (.exactly (.string "RuleDeck" 157) "java/lang/String") (List.mem_of_getElem? (i := 370) rfl))
      exact ⟨a, vk_R.of (hts (.stringRef "RuleDeck" 157 "a corner too far out") tw_1450) e1⟩
    · obtain ⟨a, -, -, -, e1, -⟩ := Cond.exactly_spec (hs (.exactly (.string "RuleDeck" 168) "java/lang/String") (List.mem_of_getElem? (i := 394) rfl))
      exact ⟨a, vk_R.of (hts (.stringRef "RuleDeck" 168 "no such voltage") tw_1451) e1⟩
    · obtain ⟨a, -, -, -, e1, -⟩ := Cond.exactly_spec (hs (.exactly (.string "RuleDeck" 173) "java/lang/String") (List.mem_of_getElem? (i := 413) rfl))
      exact ⟨a, vk_R.of (hts (.stringRef "RuleDeck" 173 "no such cell") tw_1452) e1⟩
    · obtain ⟨a, -, -, -, e1, -⟩ := Cond.exactly_spec (hs (.exactly (.string "RuleDeck" 178) "java/lang/String") (List.mem_of_getElem? (i := 429) rfl))
      exact ⟨a, vk_R.of (hts (.stringRef "RuleDeck" 178 "no more places") tw_1453) e1⟩
    · obtain ⟨a, -, -, -, e1, -⟩ := Cond.exactly_spec (hs (.exactly (.string "RuleDeck" 180) "java/lang/String") (List.mem_of_getElem? (i := 447) rfl))
      exact ⟨a, vk_R.of (hts (.stringRef "RuleDeck" 180 "no such place or turn") tw_1454) e1⟩
    · obtain ⟨a, -, -, -, e1, -⟩ := Cond.exactly_spec (hs (.exactly (.string "RuleDeck" 192) "java/lang/String") (List.mem_of_getElem? (i := 472) rfl))
      exact ⟨a, vk_R.of (hts (.stringRef "RuleDeck" 192 "no such rule or cell") tw_1455) e1⟩
    · obtain ⟨a, -, -, -, e1, -⟩ := Cond.exactly_spec (hs (.exactly (.string "RuleDeck" 204) "java/lang/String") (List.mem_of_getElem? (i := 496) rfl))
      exact ⟨a, vk_R.of (hts (.stringRef "RuleDeck" 204 "too many occurrences or violations") tw_1456) e1⟩
    · obtain ⟨a, -, -, -, e1, -⟩ := Cond.exactly_spec (hs (.exactly (.string "RuleDeck" 220) "java/lang/String") (List.mem_of_getElem? (i := 534) rfl))
      exact ⟨a, vk_R.of (hts (.stringRef "RuleDeck" 220 "no such violation or what") tw_1457) e1⟩
    · obtain ⟨a, -, -, -, e1, -⟩ := Cond.exactly_spec (hs (.exactly (.string "RuleDeck" 226) "java/lang/String") (List.mem_of_getElem? (i := 563) rfl))
      exact ⟨a, vk_R.of (hts (.stringRef "RuleDeck" 226 "no such violation") tw_1458) e1⟩
    · obtain ⟨a, -, -, -, e1, -⟩ := Cond.exactly_spec (hs (.exactly (.string "RuleDeck" 233) "java/lang/String") (List.mem_of_getElem? (i := 584) rfl))
      exact ⟨a, vk_R.of (hts (.stringRef "RuleDeck" 233 "no more waived violations") tw_1459) e1⟩
    · obtain ⟨a, -, -, -, e1, -⟩ := Cond.exactly_spec (hs (.exactly (.string "RuleDeck" 239) "java/lang/String") (List.mem_of_getElem? (i := 613) rfl))
      exact ⟨a, vk_R.of (hts (.stringRef "RuleDeck" 239 "the latest run was not flat, or there was none") tw_1460) e1⟩
    · obtain ⟨a, -, -, -, e1, -⟩ := Cond.exactly_spec (hs (.exactly (.string "RuleDeck" 241) "java/lang/String") (List.mem_of_getElem? (i := 663) rfl))
      exact ⟨a, vk_R.of (hts (.stringRef "RuleDeck" 241 "no such box") tw_1461) e1⟩
    · obtain ⟨a, -, -, -, e1, -⟩ := Cond.exactly_spec (hs (.exactly (.string "RuleDeck" 255) "java/lang/String") (List.mem_of_getElem? (i := 678) rfl))
      exact ⟨a, vk_R.of (hts (.stringRef "RuleDeck" 255 "no such what") tw_1462) e1⟩
    · obtain ⟨a, -, -, -, e1, -⟩ := Cond.exactly_spec (hs (.exactly (.string "RuleDeck" 261) "java/lang/String") (List.mem_of_getElem? (i := 694) rfl))
      exact ⟨a, vk_R.of (hts (.stringRef "RuleDeck" 261 "too many occurrences") tw_1463) e1⟩
