theorem tw_1418 : Cond.arrayOver (.object "RuleDeck$Move") ∈ lw_tbl := List.mem_append_right _ (List.mem_append_left _ (List.mem_of_getElem? (i := 49) rfl))
theorem tw_1419 : Cond.arrayOver (.object "RuleDeck$Polygon") ∈ lw_tbl := List.mem_append_right _ (List.mem_append_left _ (List.mem_of_getElem? (i := 47) rfl))
theorem tw_1420 : Cond.arrayOver (.object "RuleDeck$Rule") ∈ lw_tbl := List.mem_append_right _ (List.mem_append_left _ (List.mem_of_getElem? (i := 123) rfl))
theorem tw_1441 : Cond.methodLinkNest "RuleDeck" 21 ⟨"RuleDeck$Tape", "<init>", "()V"⟩ "RuleDeck" ∈ lw_tbl := List.mem_append_right _ (List.mem_append_left _ (List.mem_of_getElem? (i := 102) rfl))
theorem tw_1442 : Cond.methodLinkNest "RuleDeck" 46 ⟨"RuleDeck$Waivers", "<init>", "()V"⟩ "RuleDeck" ∈ lw_tbl := List.mem_append_right _ (List.mem_append_right _ (List.mem_append_left _ (List.mem_of_getElem? (i := 62) rfl)))
theorem tw_1443 : Cond.methodLinkNest "RuleDeck" 57 ⟨"RuleDeck$Rule", "<init>", "()V"⟩ "RuleDeck" ∈ lw_tbl := List.mem_append_right _ (List.mem_append_right _ (List.mem_append_left _ (List.mem_of_getElem? (i := 79) rfl)))
theorem tw_1444 : Cond.methodLinkNest "RuleDeck" 60 ⟨"RuleDeck$Told", "<init>", "()V"⟩ "RuleDeck" ∈ lw_tbl := List.mem_append_right _ (List.mem_append_right _ (List.mem_append_left _ (List.mem_of_getElem? (i := 82) rfl)))
theorem tw_1445 : Cond.methodLinkNest "RuleDeck$Checker" 34 ⟨"RuleDeck$Move", "<init>", "()V"⟩ "RuleDeck" ∈ lw_tbl := List.mem_append_right _ (List.mem_append_right _ (List.mem_append_left _ (List.mem_of_getElem? (i := 40) rfl)))
theorem tw_1446 : Cond.methodLinkNest "RuleDeck$Layout" 52 ⟨"RuleDeck$Move", "<init>", "()V"⟩ "RuleDeck" ∈ lw_tbl := List.mem_append_right _ (List.mem_append_right _ (List.mem_append_right _ (List.mem_append_right _ (List.mem_append_left _ (List.mem_of_getElem? (i := 96) rfl)))))
theorem tw_1447 : Cond.methodLinkNest "RuleDeck$Reader" 25 ⟨"RuleDeck$Rule", "<init>", "()V"⟩ "RuleDeck" ∈ lw_tbl := List.mem_append_right _ (List.mem_append_left _ (List.mem_of_getElem? (i := 125) rfl))
theorem tw_1448 : Cond.methodLinkNest "RuleDeck$Scene" 55 ⟨"RuleDeck$Move", "<init>", "()V"⟩ "RuleDeck" ∈ lw_tbl := List.mem_append_right _ (List.mem_append_left _ (List.mem_of_getElem? (i := 213) rfl))
theorem tw_1449 : Cond.fieldLinkNest "RuleDeck$Reader" 71 "RuleDeck$Kind" "ALL" "[LRuleDeck$Kind;" "RuleDeck" ∈ lw_tbl := List.mem_append_right _ (List.mem_append_right _ (List.mem_append_left _ (List.mem_of_getElem? (i := 209) rfl)))
theorem tw_1450 : Cond.castable "java/lang/IndexOutOfBoundsException" "java/lang/IndexOutOfBoundsException" ∈ lw_tbl := List.mem_append_right _ (List.mem_append_right _ (List.mem_append_right _ (List.mem_append_left _ (List.mem_of_getElem? (i := 157) rfl))))
theorem tw_1451 : Cond.castable "java/lang/IllegalStateException" "java/lang/IllegalStateException" ∈ lw_tbl := List.mem_append_right _ (List.mem_append_right _ (List.mem_append_right _ (List.mem_append_left _ (List.mem_of_getElem? (i := 77) rfl))))
theorem tw_1452 : Cond.castable "java/lang/IllegalArgumentException" "java/lang/IllegalArgumentException" ∈ lw_tbl := List.mem_append_right _ (List.mem_append_right _ (List.mem_append_right _ (List.mem_append_right _ (List.mem_append_left _ (List.mem_of_getElem? (i := 8) rfl)))))
theorem tw_1453 : Cond.castable "java/lang/UnsupportedOperationException" "java/lang/UnsupportedOperationException" ∈ lw_tbl := List.mem_append_right _ (List.mem_append_right _ (List.mem_append_right _ (List.mem_append_right _ (List.mem_append_right _ (List.mem_append_left _ (List.mem_of_getElem? (i := 107) rfl))))))
theorem tw_1454 : Cond.declares ⟨"java/lang/RuntimeException", "<init>", "(Ljava/lang/String;)V"⟩ ∈ lw_tbl := List.mem_append_right _ (List.mem_append_right _ (List.mem_append_right _ (List.mem_append_left _ (List.mem_of_getElem? (i := 79) rfl))))
theorem tw_1455 : Cond.declares ⟨"java/lang/Exception", "<init>", "(Ljava/lang/String;)V"⟩ ∈ lw_tbl := List.mem_append_right _ (List.mem_append_right _ (List.mem_append_right _ (List.mem_append_left _ (List.mem_of_getElem? (i := 81) rfl))))
theorem tw_1456 : Cond.declares ⟨"java/lang/Throwable", "<init>", "(Ljava/lang/String;)V"⟩ ∈ lw_tbl := List.mem_append_right _ (List.mem_append_right _ (List.mem_append_right _ (List.mem_append_left _ (List.mem_of_getElem? (i := 83) rfl))))
theorem tw_1457 : Cond.laysStatic "java/lang/Throwable" "UNASSIGNED_STACK" "[Ljava/lang/StackTraceElement;" ∈ lw_tbl := List.mem_append_right _ (List.mem_append_right _ (List.mem_append_right _ (List.mem_append_left _ (List.mem_of_getElem? (i := 102) rfl))))
theorem tw_1458 : Cond.initialized "java/lang/Throwable" ∈ lw_tbl := List.mem_append_right _ (List.mem_append_left _ (List.mem_of_getElem? (i := 18) rfl))
theorem tw_1459 : Cond.laysStatic "java/lang/Throwable" "SUPPRESSED_SENTINEL" "Ljava/util/List;" ∈ lw_tbl := List.mem_append_right _ (List.mem_append_right _ (List.mem_append_right _ (List.mem_append_left _ (List.mem_of_getElem? (i := 104) rfl))))
theorem tw_1460 : Cond.stringRef "RuleDeck" 110 "no more cells" ∈ lw_tbl := List.mem_append_right _ (List.mem_append_right _ (List.mem_append_right _ (List.mem_append_left _ (List.mem_of_getElem? (i := 117) rfl))))
theorem tw_1461 : Cond.stringRef "RuleDeck" 123 "no such cell or layer" ∈ lw_tbl := List.mem_append_right _ (List.mem_append_right _ (List.mem_append_right _ (List.mem_append_left _ (List.mem_of_getElem? (i := 164) rfl))))
theorem tw_1462 : Cond.stringRef "RuleDeck" 129 "no more polygons" ∈ lw_tbl := List.mem_append_right _ (List.mem_append_right _ (List.mem_append_right _ (List.mem_append_left _ (List.mem_of_getElem? (i := 171) rfl))))
theorem tw_1463 : Cond.stringRef "RuleDeck" 138 "no such polygon" ∈ lw_tbl := List.mem_append_right _ (List.mem_append_right _ (List.mem_append_right _ (List.mem_append_left _ (List.mem_of_getElem? (i := 239) rfl))))
theorem tw_1464 : Cond.stringRef "RuleDeck" 149 "no more corners" ∈ lw_tbl := List.mem_append_right _ (List.mem_append_right _ (List.mem_append_right _ (List.mem_append_right _ (List.mem_append_left _ (List.mem_of_getElem? (i := 0) rfl)))))
theorem tw_1465 : Cond.stringRef "RuleDeck" 157 "a corner too far out" ∈ lw_tbl := List.mem_append_right _ (List.mem_append_right _ (List.mem_append_right _ (List.mem_append_right _ (List.mem_append_left _ (List.mem_of_getElem? (i := 15) rfl)))))
theorem tw_1466 : Cond.stringRef "RuleDeck" 168 "no such voltage" ∈ lw_tbl := List.mem_append_right _ (List.mem_append_right _ (List.mem_append_right _ (List.mem_append_right _ (List.mem_append_left _ (List.mem_of_getElem? (i := 73) rfl)))))
theorem tw_1467 : Cond.stringRef "RuleDeck" 173 "no such cell" ∈ lw_tbl := List.mem_append_right _ (List.mem_append_right _ (List.mem_append_right _ (List.mem_append_right _ (List.mem_append_left _ (List.mem_of_getElem? (i := 81) rfl)))))
theorem tw_1468 : Cond.stringRef "RuleDeck" 178 "no more places" ∈ lw_tbl := List.mem_append_right _ (List.mem_append_right _ (List.mem_append_right _ (List.mem_append_right _ (List.mem_append_left _ (List.mem_of_getElem? (i := 82) rfl)))))
theorem tw_1469 : Cond.stringRef "RuleDeck" 180 "no such place or turn" ∈ lw_tbl := List.mem_append_right _ (List.mem_append_right _ (List.mem_append_right _ (List.mem_append_right _ (List.mem_append_left _ (List.mem_of_getElem? (i := 83) rfl)))))
theorem tw_1470 : Cond.stringRef "RuleDeck" 192 "no such rule or cell" ∈ lw_tbl := List.mem_append_right _ (List.mem_append_right _ (List.mem_append_right _ (List.mem_append_right _ (List.mem_append_left _ (List.mem_of_getElem? (i := 113) rfl)))))
theorem tw_1471 : Cond.stringRef "RuleDeck" 204 "too many occurrences or violations" ∈ lw_tbl := List.mem_append_right _ (List.mem_append_right _ (List.mem_append_right _ (List.mem_append_right _ (List.mem_append_right _ (List.mem_append_left _ (List.mem_of_getElem? (i := 114) rfl))))))
theorem tw_1472 : Cond.stringRef "RuleDeck" 220 "no such violation or what" ∈ lw_tbl := List.mem_append_right _ (List.mem_append_right _ (List.mem_append_right _ (List.mem_append_right _ (List.mem_append_right _ (List.mem_append_left _ (List.mem_of_getElem? (i := 176) rfl))))))
theorem tw_1473 : Cond.stringRef "RuleDeck" 226 "no such violation" ∈ lw_tbl := List.mem_append_right _ (List.mem_append_right _ (List.mem_append_right _ (List.mem_append_right _ (List.mem_append_right _ (List.mem_append_left _ (List.mem_of_getElem? (i := 185) rfl))))))
theorem tw_1474 : Cond.stringRef "RuleDeck" 233 "no more waived violations" ∈ lw_tbl := List.mem_append_right _ (List.mem_append_right _ (List.mem_append_right _ (List.mem_append_right _ (List.mem_append_right _ (List.mem_append_left _ (List.mem_of_getElem? (i := 194) rfl))))))
theorem tw_1475 : Cond.stringRef "RuleDeck" 239 "the latest run was not flat, or there was none" ∈ lw_tbl := List.mem_append_right _ (List.mem_append_right _ (List.mem_append_right _ (List.mem_append_right _ (List.mem_append_right _ (List.mem_append_left _ (List.mem_of_getElem? (i := 207) rfl))))))
theorem tw_1476 : Cond.stringRef "RuleDeck" 241 "no such box" ∈ lw_tbl := List.mem_append_right _ (List.mem_append_right _ (List.mem_append_right _ (List.mem_append_right _ (List.mem_append_right _ (List.mem_append_left _ (List.mem_of_getElem? (i := 208) rfl))))))
theorem tw_1477 : Cond.stringRef "RuleDeck" 255 "no such what" ∈ lw_tbl := List.mem_append_right _ (List.mem_append_right _ (List.mem_append_right _ (List.mem_append_right _ (List.mem_append_right _ (List.mem_append_left _ (List.mem_of_getElem? (i := 239) rfl))))))
theorem tw_1478 : Cond.stringRef "RuleDeck" 261 "too many occurrences" ∈ lw_tbl := List.mem_append_right _ (List.mem_append_right _ (List.mem_append_right _ (List.mem_append_right _ (List.mem_append_right _ (List.mem_append_right _ (List.mem_append_left _ (List.mem_of_getElem? (i := 8) rfl)))))))
theorem sv_Enc {E d : String} {nm : List String} {F : List (String × String × String × List Int32)} {ad ad1 : Nat → Nat} {A : Nat → Prop} {U : State} {H : Heap} (h : ∀ i, i < nm.length → ad1 i = ad i) (X : va_En E d nm F ad A U H) : va_En E d nm F ad1 A U H := ⟨fun i hi => by rw [h i hi]; exact X.1 i hi, fun i j hi hj e => X.2 i j hi hj (by rw [← h i hi, ← h j hj]; exact e)⟩
def sv_ad (b tA tS : Nat) (w k v : Nat → Nat) (q : Nat) : Nat := if q = 100 then b else if q = 101 then tA else if q = 102 then tS else if q < 20 then w q else if q < 40 then k (q - 20) else v (q - 40)
theorem sv_ad1 {b tA tS : Nat} {w k v : Nat → Nat} {i : Nat} (h : i < 20) : sv_ad b tA tS w k v i = w i := by rw [sv_ad, if_neg (by omega), if_neg (by omega), if_neg (by omega), if_pos h]
theorem sv_ad2 {b tA tS : Nat} {w k v : Nat → Nat} {i : Nat} (h : i < 20) : sv_ad b tA tS w k v (20 + i) = k i := by rw [sv_ad, if_neg (by omega), if_neg (by omega), if_neg (by omega), if_neg (by omega), if_pos (by omega), Nat.add_sub_cancel_left]
theorem sv_ad3 {b tA tS : Nat} {w k v : Nat → Nat} {i : Nat} (h : i < 20) : sv_ad b tA tS w k v (40 + i) = v i := by rw [sv_ad, if_neg (by omega), if_neg (by omega), if_neg (by omega), if_neg (by omega), if_neg (by omega), Nat.add_sub_cancel_left]
set_option maxHeartbeats 4000000 in
set_option maxRecDepth 100000 in
theorem sv_begin (l : Launch) {s : State} {args : Array Value} (hts : ∀ w ∈ lw_tbl, w.before args s = true) (hgv : (Jvm.Cond.and given_1 narrow_1).before args s = true) {b L : Nat} {xs : Nat → Int32} (hX : va_X b L xs s s.heap) (hbl : b < s.heap.size) : ∃ G : sv_G, G.1 = l ∧ G.2.2.2.1 = s.heap ∧ G.2.2.2.2.1 100 = b ∧ G.2.2.2.2.2.1 = L ∧ G.2.2.2.2.2.2 = xs ∧ sv_K G s ∧ sv_Z G s := by
  have hs := flat_of_before _ hgv
  obtain ⟨c0, i0, k0⟩ := u_known (C := RX1) (T := TX1) (N := 6) (n := 6) hts tl_wsX10 (hts _ tw_193)
  obtain ⟨c1, i1, k1⟩ := u_known (C := RX3) (T := TX3) (N := 10) (n := 10) hts tl_wsX30 (hts _ tw_205)
  obtain ⟨c2, i2, k2⟩ := u_known (C := RX4) (T := TX4) (N := 4) (n := 4) hts tl_wsX40 (hts _ tw_273)
  obtain ⟨c3, i3, k3⟩ := u_known (C := RX5) (T := TX5) (N := 10) (n := 10) hts tl_wsX50 (hts _ tw_666)
  obtain ⟨c4, i4, k4⟩ := u_known (C := RX6) (T := TX6) (N := 9) (n := 9) hts tl_wsX60 (hts _ tw_197)
  obtain ⟨c5, i5, k5⟩ := u_known (C := RX7) (T := TX7) (N := 8) (n := 8) hts tl_wsX70 (hts _ tw_232)
  obtain ⟨c6, i6, k6⟩ := u_known (C := RX8) (T := TX8) (N := 14) (n := 14) hts tl_wsX80 (hts _ tw_276)
  obtain ⟨c7, i7, k7⟩ := u_known (C := RX9) (T := TX9) (N := 2) (n := 2) hts tl_wsX90 (hts _ tw_201)
  obtain ⟨c8, i8, k8⟩ := u_known (C := RX10) (T := TX10) (N := 7) (n := 7) hts tl_wsX100 (hts _ tw_229)
  obtain ⟨c9, i9, k9⟩ := u_known (C := RX11) (T := TX11) (N := 3) (n := 3) hts tl_wsX110 (hts _ tw_189)
  obtain ⟨c10, i10, k10⟩ := u_known (C := RX12) (T := TX12) (N := 13) (n := 13) hts tl_wsX120 (hts _ tw_99)
  obtain ⟨c11, i11, k11⟩ := u_known (C := RX13) (T := TX13) (N := 71) (n := 71) hts tl_wsX130 (hts _ tw_96)
  obtain ⟨aI, bI, pI, qI, rI, tI⟩ := Cond.arrayClass_spec (hts (.arrayClass .int) tw_217)
  obtain ⟨aJ, bJ, pJ, qJ, rJ, tJ⟩ := Cond.arrayClass_spec (hts (.arrayClass .long) tw_94)
  obtain ⟨aZ, bZ, pZ, qZ, rZ, tZ⟩ := Cond.arrayClass_spec (hts (.arrayClass .boolean) tw_404)
  obtain ⟨pM, aM, bM, uM, -, rM, tM, qM⟩ := Cond.arrayOver_spec (hts (.arrayOver (.object "RuleDeck$Move")) tw_1418)
  obtain ⟨pP, aP, bP, uP, -, rP, tP, qP⟩ := Cond.arrayOver_spec (hts (.arrayOver (.object "RuleDeck$Polygon")) tw_1419)
  obtain ⟨pR, aR, bR, uR, -, rR, tR, qR⟩ := Cond.arrayOver_spec (hts (.arrayOver (.object "RuleDeck$Rule")) tw_1420)
  obtain ⟨w, k, v, tA, tS, ew, hE, hO1, hO2, hO3, hO4, hO5, hO6, hR1, hR2, hR3⟩ := sv_old3 hts hgv
  have hA : ∀ q : Nat, q < s.heap.size → ¬ s.heap.size ≤ q := fun q hq => Nat.not_le.mpr hq
  refine ⟨(l, (fun k => match k with | 0 => c0 | 1 => c1 | 2 => c2 | 3 => c3 | 4 => c4 | 5 => c5 | 6 => c6 | 7 => c7 | 8 => c8 | 9 => c9 | 10 => c10 | _ => c11, fun k => match k with | 0 => i0 | 1 => i1 | 2 => i2 | 3 => i3 | 4 => i4 | 5 => i5 | 6 => i6 | 7 => i7 | 8 => i8 | 9 => i9 | 10 => i10 | _ => i11), fun k => match k with | 0 => aI | 1 => aJ | 2 => aZ | 3 => aM | 4 => aP | _ => aR, s.heap, sv_ad b tA tS w k v, L, xs), rfl, rfl, rfl, rfl, rfl, ⟨⟨?_, ?_⟩, ?_, ?_, ?_, ?_, ?_, ?_, ?_, ?_⟩, ?_, ⟨?_, ?_⟩, ?_, hX, hbl, ⟨?_, ?_, ?_, ⟨hO3.1, ?_⟩, hO4, hO5, hO6⟩, ?_⟩
  · intro k q hq
    match k, hq with
    | 0, hq => cases hq; exact k0
    | 1, hq => cases hq; exact k1
    | 2, hq => cases hq; exact k2
    | 3, hq => cases hq; exact k3
    | 4, hq => cases hq; exact k4
    | 5, hq => cases hq; exact k5
    | 6, hq => cases hq; exact k6
    | 7, hq => cases hq; exact k7
    | 8, hq => cases hq; exact k8
    | 9, hq => cases hq; exact k9
    | 10, hq => cases hq; exact k10
    | 11, hq => cases hq; exact k11
    | k + 12, hq => simp [vwCl] at hq
  · intro k q hq
    match k, hq with
    | 0, hq => cases hq; exact ⟨fun n z => ⟨fun k h => (by cases h), bI, rI, pI, tI⟩, qI⟩
    | 1, hq => cases hq; exact ⟨fun n z => ⟨fun k h => (by cases h), bJ, rJ, pJ, tJ⟩, qJ⟩
    | 2, hq => cases hq; exact ⟨fun n z => ⟨fun k h => (by cases h), bZ, rZ, pZ, tZ⟩, qZ⟩
    | 3, hq => cases hq; exact ⟨fun n z => ⟨fun k h => (by cases h), bM, rM, pM, tM⟩, bM, pM, rM, tM, uM, qM⟩
    | 4, hq => cases hq; exact ⟨fun n z => ⟨fun k h => (by cases h), bP, rP, pP, tP⟩, bP, pP, rP, tP, uP, qP⟩
    | 5, hq => cases hq; exact ⟨fun n z => ⟨fun k h => (by cases h), bR, rR, pR, tR⟩, bR, pR, rR, tR, uR, qR⟩
    | k + 6, hq => simp [sv_ty] at hq
  · intro q hq
    simp only [sv_nm, List.mem_cons, List.not_mem_nil, or_false] at hq
    rcases hq with rfl | rfl | rfl | rfl | rfl | rfl | rfl | rfl
    · exact va_Nw.of rfl (hts _ tw_1441)
    · exact va_Nw.of rfl (hts _ tw_1442)
    · exact va_Nw.of rfl (hts _ tw_1443)
    · exact va_Nw.of rfl (hts _ tw_1444)
    · exact va_Nw.of rfl (hts _ tw_1445)
    · exact va_Nw.of rfl (hts _ tw_1446)
    · exact va_Nw.of rfl (hts _ tw_1447)
    · exact va_Nw.of rfl (hts _ tw_1448)
  · exact va_Nw.of rfl (hts _ tw_1449)
  · exact va_AO.of (hts _ tw_1418)
  · exact va_AO.of (hts _ tw_1419)
  · exact va_AO.of (hts _ tw_1420)
  · intro E hE
    simp only [sv_ex, List.mem_cons, List.not_mem_nil, or_false] at hE
    rcases hE with rfl | rfl | rfl | rfl
    · exact va_Nw.of rfl (hts _ tw_1450)
    · exact va_Nw.of rfl (hts _ tw_1451)
    · exact va_Nw.of rfl (hts _ tw_1452)
    · exact va_Nw.of rfl (hts _ tw_1453)
  · intro E hE F hF hn
    simp only [sv_ex, List.mem_cons, List.not_mem_nil, or_false] at hE hF
    rcases hE with rfl | rfl | rfl | rfl <;> rcases hF with rfl | rfl | rfl | rfl
    · exact absurd rfl hn
    · exact va_Nc.of (hs (.not (.castable "java/lang/IndexOutOfBoundsException" "java/lang/IllegalStateException")) (List.mem_of_getElem? (i := 196) rfl))
    · exact va_Nc.of (hs (.not (.castable "java/lang/IndexOutOfBoundsException" "java/lang/IllegalArgumentException")) (List.mem_of_getElem? (i := 229) rfl))
    · exact va_Nc.of (hs (.not (.castable "java/lang/IndexOutOfBoundsException" "java/lang/UnsupportedOperationException")) (List.mem_of_getElem? (i := 245) rfl))
    · exact va_Nc.of (hs (.not (.castable "java/lang/IllegalStateException" "java/lang/IndexOutOfBoundsException")) (List.mem_of_getElem? (i := 212) rfl))
    · exact absurd rfl hn
    · exact va_Nc.of (hs (.not (.castable "java/lang/IllegalStateException" "java/lang/IllegalArgumentException")) (List.mem_of_getElem? (i := 228) rfl))
    · exact va_Nc.of (hs (.not (.castable "java/lang/IllegalStateException" "java/lang/UnsupportedOperationException")) (List.mem_of_getElem? (i := 244) rfl))
    · exact va_Nc.of (hs (.not (.castable "java/lang/IllegalArgumentException" "java/lang/IndexOutOfBoundsException")) (List.mem_of_getElem? (i := 214) rfl))
    · exact va_Nc.of (hs (.not (.castable "java/lang/IllegalArgumentException" "java/lang/IllegalStateException")) (List.mem_of_getElem? (i := 198) rfl))
    · exact absurd rfl hn
    · exact va_Nc.of (hs (.not (.castable "java/lang/IllegalArgumentException" "java/lang/UnsupportedOperationException")) (List.mem_of_getElem? (i := 247) rfl))
    · exact va_Nc.of (hs (.not (.castable "java/lang/UnsupportedOperationException" "java/lang/IndexOutOfBoundsException")) (List.mem_of_getElem? (i := 215) rfl))
    · exact va_Nc.of (hs (.not (.castable "java/lang/UnsupportedOperationException" "java/lang/IllegalStateException")) (List.mem_of_getElem? (i := 199) rfl))
    · exact va_Nc.of (hs (.not (.castable "java/lang/UnsupportedOperationException" "java/lang/IllegalArgumentException")) (List.mem_of_getElem? (i := 231) rfl))
    · exact absurd rfl hn
  · intro y hy
    simp only [sv_dc, List.mem_cons, List.not_mem_nil, or_false] at hy
    rcases hy with rfl | rfl | rfl
    · exact va_Nw.of rfl (hts _ tw_1454)
    · exact va_Nw.of rfl (hts _ tw_1455)
    · exact va_Nw.of rfl (hts _ tw_1456)
  · intro q hq
    simp only [sv_kc, List.mem_cons, List.not_mem_nil, or_false] at hq
    rcases hq with rfl | rfl | rfl | rfl
    · exact (hE.1 0 (by decide)).1
    · exact (hE.1 5 (by decide)).1
    · exact (hE.1 8 (by decide)).1
    · exact (hE.1 9 (by decide)).1
  · exact vx_Zqof (hts (.laysStatic "java/lang/Throwable" "UNASSIGNED_STACK" "[Ljava/lang/StackTraceElement;") tw_1457) (hts (.initialized "java/lang/Throwable") tw_1458) (hs (.isRef (.static "java/lang/Throwable" "UNASSIGNED_STACK" "[Ljava/lang/StackTraceElement;")) (List.mem_of_getElem? (i := 33) rfl)) hA
  · exact vx_Zqof (hts (.laysStatic "java/lang/Throwable" "SUPPRESSED_SENTINEL" "Ljava/util/List;") tw_1459) (hts (.initialized "java/lang/Throwable") tw_1458) (hs (.isRef (.static "java/lang/Throwable" "SUPPRESSED_SENTINEL" "Ljava/util/List;")) (List.mem_of_getElem? (i := 34) rfl)) hA
  · intro q hq
    simp only [sv_tx, List.mem_cons, List.not_mem_nil, or_false] at hq
    rcases hq with rfl | rfl | rfl | rfl | rfl | rfl | rfl | rfl | rfl | rfl | rfl | rfl | rfl | rfl | rfl | rfl | rfl | rfl | rfl
    · obtain ⟨a, -, -, -, e1, -⟩ := Cond.exactly_spec (hs (.exactly (.string "RuleDeck" 110) "java/lang/String") (List.mem_of_getElem? (i := 270) rfl))
      exact ⟨a, vk_R.of (hts (.stringRef "RuleDeck" 110 "no more cells") tw_1460) e1⟩
    · obtain ⟨a, -, -, -, e1, -⟩ := Cond.exactly_spec (hs (.exactly (.string "RuleDeck" 123) "java/lang/String") (List.mem_of_getElem? (i := 287) rfl))
      exact ⟨a, vk_R.of (hts (.stringRef "RuleDeck" 123 "no such cell or layer") tw_1461) e1⟩
    · obtain ⟨a, -, -, -, e1, -⟩ := Cond.exactly_spec (hs (.exactly (.string "RuleDeck" 129) "java/lang/String") (List.mem_of_getElem? (i := 312) rfl))
      exact ⟨a, vk_R.of (hts (.stringRef "RuleDeck" 129 "no more polygons") tw_1462) e1⟩
    · obtain ⟨a, -, -, -, e1, -⟩ := Cond.exactly_spec (hs (.exactly (.string "RuleDeck" 138) "java/lang/String") (List.mem_of_getElem? (i := 332) rfl))
      exact ⟨a, vk_R.of (hts (.stringRef "RuleDeck" 138 "no such polygon") tw_1463) e1⟩
    · obtain ⟨a, -, -, -, e1, -⟩ := Cond.exactly_spec (hs (.exactly (.string "RuleDeck" 149) "java/lang/String") (List.mem_of_getElem? (i := 351) rfl))
      exact ⟨a, vk_R.of (hts (.stringRef "RuleDeck" 149 "no more corners") tw_1464) e1⟩
    · obtain ⟨a, -, -, -, e1, -⟩ := Cond.exactly_spec (hs (.exactly (.string "RuleDeck" 157) "java/lang/String") (List.mem_of_getElem? (i := 370) rfl))
      exact ⟨a, vk_R.of (hts (.stringRef "RuleDeck" 157 "a corner too far out") tw_1465) e1⟩
    · obtain ⟨a, -, -, -, e1, -⟩ := Cond.exactly_spec (hs (.exactly (.string "RuleDeck" 168) "java/lang/String") (List.mem_of_getElem? (i := 394) rfl))
      exact ⟨a, vk_R.of (hts (.stringRef "RuleDeck" 168 "no such voltage") tw_1466) e1⟩
    · obtain ⟨a, -, -, -, e1, -⟩ := Cond.exactly_spec (hs (.exactly (.string "RuleDeck" 173) "java/lang/String") (List.mem_of_getElem? (i := 413) rfl))
      exact ⟨a, vk_R.of (hts (.stringRef "RuleDeck" 173 "no such cell") tw_1467) e1⟩
    · obtain ⟨a, -, -, -, e1, -⟩ := Cond.exactly_spec (hs (.exactly (.string "RuleDeck" 178) "java/lang/String") (List.mem_of_getElem? (i := 429) rfl))
      exact ⟨a, vk_R.of (hts (.stringRef "RuleDeck" 178 "no more places") tw_1468) e1⟩
    · obtain ⟨a, -, -, -, e1, -⟩ := Cond.exactly_spec (hs (.exactly (.string "RuleDeck" 180) "java/lang/String") (List.mem_of_getElem? (i := 447) rfl))
      exact ⟨a, vk_R.of (hts (.stringRef "RuleDeck" 180 "no such place or turn") tw_1469) e1⟩
    · obtain ⟨a, -, -, -, e1, -⟩ := Cond.exactly_spec (hs (.exactly (.string "RuleDeck" 192) "java/lang/String") (List.mem_of_getElem? (i := 472) rfl))
      exact ⟨a, vk_R.of (hts (.stringRef "RuleDeck" 192 "no such rule or cell") tw_1470) e1⟩
    · obtain ⟨a, -, -, -, e1, -⟩ := Cond.exactly_spec (hs (.exactly (.string "RuleDeck" 204) "java/lang/String") (List.mem_of_getElem? (i := 496) rfl))
      exact ⟨a, vk_R.of (hts (.stringRef "RuleDeck" 204 "too many occurrences or violations") tw_1471) e1⟩
    · obtain ⟨a, -, -, -, e1, -⟩ := Cond.exactly_spec (hs (.exactly (.string "RuleDeck" 220) "java/lang/String") (List.mem_of_getElem? (i := 534) rfl))
      exact ⟨a, vk_R.of (hts (.stringRef "RuleDeck" 220 "no such violation or what") tw_1472) e1⟩
    · obtain ⟨a, -, -, -, e1, -⟩ := Cond.exactly_spec (hs (.exactly (.string "RuleDeck" 226) "java/lang/String") (List.mem_of_getElem? (i := 563) rfl))
      exact ⟨a, vk_R.of (hts (.stringRef "RuleDeck" 226 "no such violation") tw_1473) e1⟩
    · obtain ⟨a, -, -, -, e1, -⟩ := Cond.exactly_spec (hs (.exactly (.string "RuleDeck" 233) "java/lang/String") (List.mem_of_getElem? (i := 584) rfl))
      exact ⟨a, vk_R.of (hts (.stringRef "RuleDeck" 233 "no more waived violations") tw_1474) e1⟩
    · obtain ⟨a, -, -, -, e1, -⟩ := Cond.exactly_spec (hs (.exactly (.string "RuleDeck" 239) "java/lang/String") (List.mem_of_getElem? (i := 613) rfl))
      exact ⟨a, vk_R.of (hts (.stringRef "RuleDeck" 239 "the latest run was not flat, or there was none") tw_1475) e1⟩
    · obtain ⟨a, -, -, -, e1, -⟩ := Cond.exactly_spec (hs (.exactly (.string "RuleDeck" 241) "java/lang/String") (List.mem_of_getElem? (i := 663) rfl))
      exact ⟨a, vk_R.of (hts (.stringRef "RuleDeck" 241 "no such box") tw_1476) e1⟩
    · obtain ⟨a, -, -, -, e1, -⟩ := Cond.exactly_spec (hs (.exactly (.string "RuleDeck" 255) "java/lang/String") (List.mem_of_getElem? (i := 678) rfl))
      exact ⟨a, vk_R.of (hts (.stringRef "RuleDeck" 255 "no such what") tw_1477) e1⟩
    · obtain ⟨a, -, -, -, e1, -⟩ := Cond.exactly_spec (hs (.exactly (.string "RuleDeck" 261) "java/lang/String") (List.mem_of_getElem? (i := 694) rfl))
      exact ⟨a, vk_R.of (hts (.stringRef "RuleDeck" 261 "too many occurrences") tw_1478) e1⟩
  · exact sv_Enc (fun i hi => sv_ad1 (by have : i < 11 := hi; omega)) hE
  · intro i hi
    show va_O "java/lang/String" (sv_ad b tA tS w k v (20 + i)) _ _ _ ∧ va_OF _ _ _ _ (sv_ad b tA tS w k v (20 + i)) _ _ _ ∧ va_OF _ _ _ (.ref (sv_ad b tA tS w k v (40 + i))) (sv_ad b tA tS w k v (20 + i)) _ _ _ ∧ va_T _ (sv_ad b tA tS w k v (40 + i)) _ _ _ _ _
    rw [sv_ad2 (by omega), sv_ad3 (by omega)]
    exact hO1 i hi
  · intro i hi
    show va_OF _ _ _ (.ref (sv_ad b tA tS w k v (20 + i))) (sv_ad b tA tS w k v i) _ _ _
    rw [sv_ad2 (by omega), sv_ad1 (by omega)]
    exact hO2 i hi
  · obtain ⟨cell, g1, g2, g3, g4, g5, g6, g7⟩ := hO3.2
    exact ⟨cell, g1, g2, g3, g4, g5, fun j hj => by rw [g6 j hj]; show some (Value.ref (w j)) = some (Value.ref (sv_ad b tA tS w k v j)); rw [sv_ad1 (by omega)], g7⟩
  · intro q hq
    simp only [sv_ld, List.mem_cons, List.not_mem_nil, or_false] at hq
    rcases hq with rfl | rfl | rfl
    · exact hR1
    · exact hR2
    · exact hR3
