theorem tw_1421 : Cond.initialized "RuleDeck$Kind" ∈ lw_tbl := List.mem_append_right _ (List.mem_append_left _ (List.mem_of_getElem? (i := 7) rfl))
theorem tw_1422 : Cond.laysStatic "RuleDeck$Kind" "WIDTH" "LRuleDeck$Kind;" ∈ lw_tbl := List.mem_append_right _ (List.mem_append_left _ (List.mem_of_getElem? (i := 130) rfl))
theorem tw_1423 : Cond.laysStatic "RuleDeck$Kind" "NOTCH" "LRuleDeck$Kind;" ∈ lw_tbl := List.mem_append_right _ (List.mem_append_right _ (List.mem_append_right _ (List.mem_append_right _ (List.mem_append_right _ (List.mem_append_right _ (List.mem_append_right _ (List.mem_append_right _ (List.mem_of_getElem? (i := 69) rfl))))))))
theorem tw_1424 : Cond.laysStatic "RuleDeck$Kind" "AREA" "LRuleDeck$Kind;" ∈ lw_tbl := List.mem_append_right _ (List.mem_append_right _ (List.mem_append_right _ (List.mem_append_right _ (List.mem_append_right _ (List.mem_append_right _ (List.mem_append_right _ (List.mem_append_right _ (List.mem_of_getElem? (i := 70) rfl))))))))
theorem tw_1425 : Cond.laysStatic "RuleDeck$Kind" "EDGE" "LRuleDeck$Kind;" ∈ lw_tbl := List.mem_append_right _ (List.mem_append_right _ (List.mem_append_right _ (List.mem_append_right _ (List.mem_append_right _ (List.mem_append_right _ (List.mem_append_right _ (List.mem_append_right _ (List.mem_of_getElem? (i := 71) rfl))))))))
theorem tw_1426 : Cond.laysStatic "RuleDeck$Kind" "CORNERS" "LRuleDeck$Kind;" ∈ lw_tbl := List.mem_append_right _ (List.mem_append_right _ (List.mem_append_right _ (List.mem_append_right _ (List.mem_append_right _ (List.mem_append_right _ (List.mem_append_right _ (List.mem_append_right _ (List.mem_of_getElem? (i := 72) rfl))))))))
theorem tw_1427 : Cond.laysStatic "RuleDeck$Kind" "DENSITY" "LRuleDeck$Kind;" ∈ lw_tbl := List.mem_append_right _ (List.mem_append_right _ (List.mem_append_right _ (List.mem_append_right _ (List.mem_append_left _ (List.mem_of_getElem? (i := 207) rfl)))))
theorem tw_1428 : Cond.laysStatic "RuleDeck$Kind" "COUNT" "LRuleDeck$Kind;" ∈ lw_tbl := List.mem_append_right _ (List.mem_append_right _ (List.mem_append_right _ (List.mem_append_right _ (List.mem_append_right _ (List.mem_append_right _ (List.mem_append_right _ (List.mem_append_right _ (List.mem_of_getElem? (i := 73) rfl))))))))
theorem tw_1429 : Cond.laysStatic "RuleDeck$Kind" "SPACE" "LRuleDeck$Kind;" ∈ lw_tbl := List.mem_append_right _ (List.mem_append_right _ (List.mem_append_right _ (List.mem_append_right _ (List.mem_append_right _ (List.mem_append_right _ (List.mem_append_right _ (List.mem_append_right _ (List.mem_of_getElem? (i := 74) rfl))))))))
theorem tw_1430 : Cond.laysStatic "RuleDeck$Kind" "CORNER" "LRuleDeck$Kind;" ∈ lw_tbl := List.mem_append_right _ (List.mem_append_right _ (List.mem_append_right _ (List.mem_append_right _ (List.mem_append_left _ (List.mem_of_getElem? (i := 180) rfl)))))
theorem tw_1431 : Cond.laysStatic "RuleDeck$Kind" "ENCLOSE" "LRuleDeck$Kind;" ∈ lw_tbl := List.mem_append_right _ (List.mem_append_right _ (List.mem_append_right _ (List.mem_append_right _ (List.mem_append_left _ (List.mem_of_getElem? (i := 237) rfl)))))
theorem tw_1432 : Cond.laysStatic "RuleDeck$Kind" "OVERLAP" "LRuleDeck$Kind;" ∈ lw_tbl := List.mem_append_right _ (List.mem_append_right _ (List.mem_append_right _ (List.mem_append_right _ (List.mem_append_right _ (List.mem_append_right _ (List.mem_append_right _ (List.mem_append_right _ (List.mem_of_getElem? (i := 75) rfl))))))))
theorem tw_1433 : Cond.laysStatic "RuleDeck$Kind" "ALL" "[LRuleDeck$Kind;" ∈ lw_tbl := List.mem_append_right _ (List.mem_append_right _ (List.mem_append_left _ (List.mem_of_getElem? (i := 210) rfl)))
theorem tw_1434 : Cond.laysStatic "RuleDeck$1" "$SwitchMap$RuleDeck$Kind" "[I" ∈ lw_tbl := List.mem_append_right _ (List.mem_append_right _ (List.mem_append_right _ (List.mem_append_right _ (List.mem_append_left _ (List.mem_of_getElem? (i := 225) rfl)))))
theorem tw_1435 : Cond.initialized "RuleDeck$1" ∈ lw_tbl := List.mem_append_right _ (List.mem_append_left _ (List.mem_of_getElem? (i := 28) rfl))
theorem tw_1436 : Cond.laysStatic "java/lang/String" "COMPACT_STRINGS" "Z" ∈ lw_tbl := List.mem_append_right _ (List.mem_append_right _ (List.mem_append_left _ (List.mem_of_getElem? (i := 224) rfl)))
theorem tw_1437 : Cond.laysStatic "jdk/internal/util/Preconditions" "SIOOBE_FORMATTER" "Ljava/util/function/BiFunction;" ∈ lw_tbl := List.mem_append_right _ (List.mem_append_right _ (List.mem_append_right _ (List.mem_append_left _ (List.mem_of_getElem? (i := 0) rfl))))
theorem tw_1438 : Cond.stringRef "RuleDeck$Reader" 132 "run" ∈ lw_tbl := List.mem_append_right _ (List.mem_append_right _ (List.mem_append_right _ (List.mem_append_left _ (List.mem_of_getElem? (i := 44) rfl))))
theorem tw_1439 : Cond.stringRef "RuleDeck$Reader" 140 "volt" ∈ lw_tbl := List.mem_append_right _ (List.mem_append_right _ (List.mem_append_right _ (List.mem_append_left _ (List.mem_of_getElem? (i := 45) rfl))))
theorem tw_1440 : Cond.stringRef "RuleDeck$Reader" 148 "end" ∈ lw_tbl := List.mem_append_right _ (List.mem_append_right _ (List.mem_append_right _ (List.mem_append_left _ (List.mem_of_getElem? (i := 46) rfl))))
def sv_tm : List (String × Nat) := [("RuleDeck$Kind", 78), ("RuleDeck$Kind", 84), ("RuleDeck$Kind", 87), ("RuleDeck$Kind", 90), ("RuleDeck$Kind", 93), ("RuleDeck$Kind", 96), ("RuleDeck$Kind", 99), ("RuleDeck$Kind", 102), ("RuleDeck$Kind", 105), ("RuleDeck$Kind", 108), ("RuleDeck$Kind", 111), ("RuleDeck$Reader", 132), ("RuleDeck$Reader", 140), ("RuleDeck$Reader", 148)]
theorem sv_Sof {args : Array Value} {s : State} {N : Nat} {tm : Nat → Term} {byt : Nat → List Int32} {A : Nat → Prop} (hN : ∀ i : Nat, i < N → (byt i).length < 2 ^ 31) (hex : ∀ i : Nat, i < N → (Cond.exactly (tm i) "java/lang/String").before args s = true) (hco : ∀ i : Nat, i < N → (Cond.eq (.field (tm i) "java/lang/String" "coder" "B") (.int 0)).before args s = true)
    (har : ∀ i : Nat, i < N → (Cond.arrayOf (.field (tm i) "java/lang/String" "value" "[B") .byte).before args s = true) (hle : ∀ i : Nat, i < N → (Cond.eq (.length (.field (tm i) "java/lang/String" "value" "[B")) (.int (Int32.ofNat (byt i).length))).before args s = true)
    (hel : ∀ i : Nat, i < N → ∀ j : Nat, j < (byt i).length → (Cond.eq (.elem (.field (tm i) "java/lang/String" "value" "[B") (.int (Int32.ofNat j))) (.int ((byt i).getD j 0))).before args s = true) (hA : ∀ a : Nat, a < s.heap.size → ¬ A a) :
    ∃ k v : Nat → Nat, ∀ i, i < N → (tm i).eval args s none [] s = some (.ref (k i)) ∧ va_O "java/lang/String" (k i) A s s.heap ∧ va_OF "java/lang/String" "coder" "B" (.int 0) (k i) A s s.heap ∧ va_OF "java/lang/String" "value" "[B" (.ref (v i)) (k i) A s s.heap ∧ va_T .byte (v i) (byt i).length (fun j => .int ((byt i).getD j 0)) A s s.heap := by
  have h0 : ∀ i : Nat, ∃ q : Nat × Nat, i < N → (tm i).eval args s none [] s = some (.ref q.1) ∧ va_O "java/lang/String" q.1 A s s.heap ∧ va_OF "java/lang/String" "coder" "B" (.int 0) q.1 A s s.heap ∧ va_OF "java/lang/String" "value" "[B" (.ref q.2) q.1 A s s.heap ∧ va_T .byte q.2 (byt i).length (fun j => .int ((byt i).getD j 0)) A s s.heap := by
    intro i
    by_cases hi : i < N
    · obtain ⟨a, c, cA, kA, q1, q2, q3, q4, q5, q6, -⟩ := Cond.exactly_spec (args := args) (first := s) (o := none) (s := s) (idx := []) (t := tm i) (cls := "java/lang/String") (hex i hi)
      obtain ⟨t, ht, hT⟩ := va_Tof (f := fun j => .int ((byt i).getD j 0)) (A := A) (hN i hi) (har i hi) (va_eqt (hle i hi)) (fun j hj => va_eqt (hel i hi j hj)) hA
      exact ⟨(a, t), fun _ => ⟨q1, ⟨cA, q3, q5, by rw [q6]; exact q2, hA a (Array.getElem?_eq_some_iff.mp q3).1⟩, vk_OFof q1 (va_eqt (hco i hi)) hA, vk_OFof q1 ht hA, hT⟩⟩
    · exact ⟨(0, 0), fun h => absurd h hi⟩
  obtain ⟨ad, had⟩ := Classical.axiomOfChoice h0
  exact ⟨fun i => (ad i).1, fun i => (ad i).2, fun i hi => had i hi⟩
set_option maxHeartbeats 4000000 in
set_option maxRecDepth 100000 in
theorem sv_old1 {s : State} {args : Array Value} (hts : ∀ w ∈ lw_tbl, w.before args s = true) (hgv : (Jvm.Cond.and given_1 narrow_1).before args s = true) : ∃ w : Nat → Nat, va_En "RuleDeck$Kind" "LRuleDeck$Kind;" sv_kn sv_kf w (fun q => s.heap.size ≤ q) s s.heap ∧ ∀ i, i < 11 → (Term.static "RuleDeck$Kind" (sv_kn.getD i "") "LRuleDeck$Kind;").eval args s none [] s = some (.ref (w i)) := by
  have hs := flat_of_before _ hgv
  have hA : ∀ q : Nat, q < s.heap.size → ¬ s.heap.size ≤ q := fun q hq => Nat.not_le.mpr hq
  refine va_Enof2 (E := "RuleDeck$Kind") (d := "LRuleDeck$Kind;") (nm := sv_kn) (F := sv_kf) (A := (fun q => s.heap.size ≤ q)) ?_ (hts _ tw_1421) ?_ ?_ ?_ hA
  · intro i hi
    match i, hi with
    | 0, _ => exact hts (.laysStatic "RuleDeck$Kind" "WIDTH" "LRuleDeck$Kind;") tw_1422
    | 1, _ => exact hts (.laysStatic "RuleDeck$Kind" "NOTCH" "LRuleDeck$Kind;") tw_1423
    | 2, _ => exact hts (.laysStatic "RuleDeck$Kind" "AREA" "LRuleDeck$Kind;") tw_1424
    | 3, _ => exact hts (.laysStatic "RuleDeck$Kind" "EDGE" "LRuleDeck$Kind;") tw_1425
    | 4, _ => exact hts (.laysStatic "RuleDeck$Kind" "CORNERS" "LRuleDeck$Kind;") tw_1426
    | 5, _ => exact hts (.laysStatic "RuleDeck$Kind" "DENSITY" "LRuleDeck$Kind;") tw_1427
    | 6, _ => exact hts (.laysStatic "RuleDeck$Kind" "COUNT" "LRuleDeck$Kind;") tw_1428
    | 7, _ => exact hts (.laysStatic "RuleDeck$Kind" "SPACE" "LRuleDeck$Kind;") tw_1429
    | 8, _ => exact hts (.laysStatic "RuleDeck$Kind" "CORNER" "LRuleDeck$Kind;") tw_1430
    | 9, _ => exact hts (.laysStatic "RuleDeck$Kind" "ENCLOSE" "LRuleDeck$Kind;") tw_1431
    | 10, _ => exact hts (.laysStatic "RuleDeck$Kind" "OVERLAP" "LRuleDeck$Kind;") tw_1432
    | i + 11, hi => exact absurd hi (by show ¬ i + 11 < 11; omega)
  · intro i hi
    match i, hi with
    | 0, _ => exact (hs (.exactly (.static "RuleDeck$Kind" "WIDTH" "LRuleDeck$Kind;") "RuleDeck$Kind") (List.mem_of_getElem? (i := 4) rfl))
    | 1, _ => exact (hs (.exactly (.static "RuleDeck$Kind" "NOTCH" "LRuleDeck$Kind;") "RuleDeck$Kind") (List.mem_of_getElem? (i := 79) rfl))
    | 2, _ => exact (hs (.exactly (.static "RuleDeck$Kind" "AREA" "LRuleDeck$Kind;") "RuleDeck$Kind") (List.mem_of_getElem? (i := 91) rfl))
    | 3, _ => exact (hs (.exactly (.static "RuleDeck$Kind" "EDGE" "LRuleDeck$Kind;") "RuleDeck$Kind") (List.mem_of_getElem? (i := 104) rfl))
    | 4, _ => exact (hs (.exactly (.static "RuleDeck$Kind" "CORNERS" "LRuleDeck$Kind;") "RuleDeck$Kind") (List.mem_of_getElem? (i := 118) rfl))
    | 5, _ => exact (hs (.exactly (.static "RuleDeck$Kind" "DENSITY" "LRuleDeck$Kind;") "RuleDeck$Kind") (List.mem_of_getElem? (i := 44) rfl))
    | 6, _ => exact (hs (.exactly (.static "RuleDeck$Kind" "COUNT" "LRuleDeck$Kind;") "RuleDeck$Kind") (List.mem_of_getElem? (i := 133) rfl))
    | 7, _ => exact (hs (.exactly (.static "RuleDeck$Kind" "SPACE" "LRuleDeck$Kind;") "RuleDeck$Kind") (List.mem_of_getElem? (i := 149) rfl))
    | 8, _ => exact (hs (.exactly (.static "RuleDeck$Kind" "CORNER" "LRuleDeck$Kind;") "RuleDeck$Kind") (List.mem_of_getElem? (i := 35) rfl))
    | 9, _ => exact (hs (.exactly (.static "RuleDeck$Kind" "ENCLOSE" "LRuleDeck$Kind;") "RuleDeck$Kind") (List.mem_of_getElem? (i := 68) rfl))
    | 10, _ => exact (hs (.exactly (.static "RuleDeck$Kind" "OVERLAP" "LRuleDeck$Kind;") "RuleDeck$Kind") (List.mem_of_getElem? (i := 166) rfl))
    | i + 11, hi => exact absurd hi (by show ¬ i + 11 < 11; omega)
  · intro q hq
    simp only [sv_kf, List.mem_cons, List.not_mem_nil, or_false] at hq
    rcases hq with rfl | rfl | rfl | rfl | rfl | rfl
    · intro i hi
      match i, hi with
      | 0, _ => exact (hs (.eq (.field (.static "RuleDeck$Kind" "WIDTH" "LRuleDeck$Kind;") "java/lang/Enum" "ordinal" "I") (.int 0)) (List.mem_of_getElem? (i := 5) rfl))
      | 1, _ => exact (hs (.eq (.field (.static "RuleDeck$Kind" "NOTCH" "LRuleDeck$Kind;") "java/lang/Enum" "ordinal" "I") (.int 1)) (List.mem_of_getElem? (i := 80) rfl))
      | 2, _ => exact (hs (.eq (.field (.static "RuleDeck$Kind" "AREA" "LRuleDeck$Kind;") "java/lang/Enum" "ordinal" "I") (.int 2)) (List.mem_of_getElem? (i := 92) rfl))
      | 3, _ => exact (hs (.eq (.field (.static "RuleDeck$Kind" "EDGE" "LRuleDeck$Kind;") "java/lang/Enum" "ordinal" "I") (.int 3)) (List.mem_of_getElem? (i := 105) rfl))
      | 4, _ => exact (hs (.eq (.field (.static "RuleDeck$Kind" "CORNERS" "LRuleDeck$Kind;") "java/lang/Enum" "ordinal" "I") (.int 4)) (List.mem_of_getElem? (i := 119) rfl))
      | 5, _ => exact (hs (.eq (.field (.static "RuleDeck$Kind" "DENSITY" "LRuleDeck$Kind;") "java/lang/Enum" "ordinal" "I") (.int 5)) (List.mem_of_getElem? (i := 45) rfl))
      | 6, _ => exact (hs (.eq (.field (.static "RuleDeck$Kind" "COUNT" "LRuleDeck$Kind;") "java/lang/Enum" "ordinal" "I") (.int 6)) (List.mem_of_getElem? (i := 134) rfl))
      | 7, _ => exact (hs (.eq (.field (.static "RuleDeck$Kind" "SPACE" "LRuleDeck$Kind;") "java/lang/Enum" "ordinal" "I") (.int 7)) (List.mem_of_getElem? (i := 150) rfl))
      | 8, _ => exact (hs (.eq (.field (.static "RuleDeck$Kind" "CORNER" "LRuleDeck$Kind;") "java/lang/Enum" "ordinal" "I") (.int 8)) (List.mem_of_getElem? (i := 36) rfl))
      | 9, _ => exact (hs (.eq (.field (.static "RuleDeck$Kind" "ENCLOSE" "LRuleDeck$Kind;") "java/lang/Enum" "ordinal" "I") (.int 9)) (List.mem_of_getElem? (i := 69) rfl))
      | 10, _ => exact (hs (.eq (.field (.static "RuleDeck$Kind" "OVERLAP" "LRuleDeck$Kind;") "java/lang/Enum" "ordinal" "I") (.int 10)) (List.mem_of_getElem? (i := 167) rfl))
      | i + 11, hi => exact absurd hi (by show ¬ i + 11 < 11; omega)
    · intro i hi
      match i, hi with
      | 0, _ => exact (hs (.eq (.field (.static "RuleDeck$Kind" "WIDTH" "LRuleDeck$Kind;") "RuleDeck$Kind" "layers" "I") (.int 1)) (List.mem_of_getElem? (i := 7) rfl))
      | 1, _ => exact (hs (.eq (.field (.static "RuleDeck$Kind" "NOTCH" "LRuleDeck$Kind;") "RuleDeck$Kind" "layers" "I") (.int 1)) (List.mem_of_getElem? (i := 82) rfl))
      | 2, _ => exact (hs (.eq (.field (.static "RuleDeck$Kind" "AREA" "LRuleDeck$Kind;") "RuleDeck$Kind" "layers" "I") (.int 1)) (List.mem_of_getElem? (i := 94) rfl))
      | 3, _ => exact (hs (.eq (.field (.static "RuleDeck$Kind" "EDGE" "LRuleDeck$Kind;") "RuleDeck$Kind" "layers" "I") (.int 1)) (List.mem_of_getElem? (i := 107) rfl))
      | 4, _ => exact (hs (.eq (.field (.static "RuleDeck$Kind" "CORNERS" "LRuleDeck$Kind;") "RuleDeck$Kind" "layers" "I") (.int 1)) (List.mem_of_getElem? (i := 121) rfl))
      | 5, _ => exact (hs (.eq (.field (.static "RuleDeck$Kind" "DENSITY" "LRuleDeck$Kind;") "RuleDeck$Kind" "layers" "I") (.int 1)) (List.mem_of_getElem? (i := 47) rfl))
      | 6, _ => exact (hs (.eq (.field (.static "RuleDeck$Kind" "COUNT" "LRuleDeck$Kind;") "RuleDeck$Kind" "layers" "I") (.int 1)) (List.mem_of_getElem? (i := 136) rfl))
      | 7, _ => exact (hs (.eq (.field (.static "RuleDeck$Kind" "SPACE" "LRuleDeck$Kind;") "RuleDeck$Kind" "layers" "I") (.int 2)) (List.mem_of_getElem? (i := 152) rfl))
      | 8, _ => exact (hs (.eq (.field (.static "RuleDeck$Kind" "CORNER" "LRuleDeck$Kind;") "RuleDeck$Kind" "layers" "I") (.int 2)) (List.mem_of_getElem? (i := 38) rfl))
      | 9, _ => exact (hs (.eq (.field (.static "RuleDeck$Kind" "ENCLOSE" "LRuleDeck$Kind;") "RuleDeck$Kind" "layers" "I") (.int 2)) (List.mem_of_getElem? (i := 71) rfl))
      | 10, _ => exact (hs (.eq (.field (.static "RuleDeck$Kind" "OVERLAP" "LRuleDeck$Kind;") "RuleDeck$Kind" "layers" "I") (.int 2)) (List.mem_of_getElem? (i := 169) rfl))
      | i + 11, hi => exact absurd hi (by show ¬ i + 11 < 11; omega)
    · intro i hi
      match i, hi with
      | 0, _ => exact (hs (.eq (.field (.static "RuleDeck$Kind" "WIDTH" "LRuleDeck$Kind;") "RuleDeck$Kind" "whole" "Z") (.int 0)) (List.mem_of_getElem? (i := 8) rfl))
      | 1, _ => exact (hs (.eq (.field (.static "RuleDeck$Kind" "NOTCH" "LRuleDeck$Kind;") "RuleDeck$Kind" "whole" "Z") (.int 0)) (List.mem_of_getElem? (i := 83) rfl))
      | 2, _ => exact (hs (.eq (.field (.static "RuleDeck$Kind" "AREA" "LRuleDeck$Kind;") "RuleDeck$Kind" "whole" "Z") (.int 0)) (List.mem_of_getElem? (i := 95) rfl))
      | 3, _ => exact (hs (.eq (.field (.static "RuleDeck$Kind" "EDGE" "LRuleDeck$Kind;") "RuleDeck$Kind" "whole" "Z") (.int 0)) (List.mem_of_getElem? (i := 108) rfl))
      | 4, _ => exact (hs (.eq (.field (.static "RuleDeck$Kind" "CORNERS" "LRuleDeck$Kind;") "RuleDeck$Kind" "whole" "Z") (.int 0)) (List.mem_of_getElem? (i := 122) rfl))
      | 5, _ => exact (hs (.eq (.field (.static "RuleDeck$Kind" "DENSITY" "LRuleDeck$Kind;") "RuleDeck$Kind" "whole" "Z") (.int 1)) (List.mem_of_getElem? (i := 48) rfl))
      | 6, _ => exact (hs (.eq (.field (.static "RuleDeck$Kind" "COUNT" "LRuleDeck$Kind;") "RuleDeck$Kind" "whole" "Z") (.int 1)) (List.mem_of_getElem? (i := 137) rfl))
      | 7, _ => exact (hs (.eq (.field (.static "RuleDeck$Kind" "SPACE" "LRuleDeck$Kind;") "RuleDeck$Kind" "whole" "Z") (.int 0)) (List.mem_of_getElem? (i := 153) rfl))
      | 8, _ => exact (hs (.eq (.field (.static "RuleDeck$Kind" "CORNER" "LRuleDeck$Kind;") "RuleDeck$Kind" "whole" "Z") (.int 0)) (List.mem_of_getElem? (i := 39) rfl))
      | 9, _ => exact (hs (.eq (.field (.static "RuleDeck$Kind" "ENCLOSE" "LRuleDeck$Kind;") "RuleDeck$Kind" "whole" "Z") (.int 0)) (List.mem_of_getElem? (i := 72) rfl))
      | 10, _ => exact (hs (.eq (.field (.static "RuleDeck$Kind" "OVERLAP" "LRuleDeck$Kind;") "RuleDeck$Kind" "whole" "Z") (.int 0)) (List.mem_of_getElem? (i := 170) rfl))
      | i + 11, hi => exact absurd hi (by show ¬ i + 11 < 11; omega)
    · intro i hi
      match i, hi with
      | 0, _ => exact (hs (.eq (.field (.static "RuleDeck$Kind" "WIDTH" "LRuleDeck$Kind;") "RuleDeck$Kind" "takesRun" "Z") (.int 1)) (List.mem_of_getElem? (i := 9) rfl))
      | 1, _ => exact (hs (.eq (.field (.static "RuleDeck$Kind" "NOTCH" "LRuleDeck$Kind;") "RuleDeck$Kind" "takesRun" "Z") (.int 1)) (List.mem_of_getElem? (i := 84) rfl))
      | 2, _ => exact (hs (.eq (.field (.static "RuleDeck$Kind" "AREA" "LRuleDeck$Kind;") "RuleDeck$Kind" "takesRun" "Z") (.int 0)) (List.mem_of_getElem? (i := 96) rfl))
      | 3, _ => exact (hs (.eq (.field (.static "RuleDeck$Kind" "EDGE" "LRuleDeck$Kind;") "RuleDeck$Kind" "takesRun" "Z") (.int 0)) (List.mem_of_getElem? (i := 109) rfl))
      | 4, _ => exact (hs (.eq (.field (.static "RuleDeck$Kind" "CORNERS" "LRuleDeck$Kind;") "RuleDeck$Kind" "takesRun" "Z") (.int 0)) (List.mem_of_getElem? (i := 123) rfl))
      | 5, _ => exact (hs (.eq (.field (.static "RuleDeck$Kind" "DENSITY" "LRuleDeck$Kind;") "RuleDeck$Kind" "takesRun" "Z") (.int 0)) (List.mem_of_getElem? (i := 49) rfl))
      | 6, _ => exact (hs (.eq (.field (.static "RuleDeck$Kind" "COUNT" "LRuleDeck$Kind;") "RuleDeck$Kind" "takesRun" "Z") (.int 0)) (List.mem_of_getElem? (i := 138) rfl))
      | 7, _ => exact (hs (.eq (.field (.static "RuleDeck$Kind" "SPACE" "LRuleDeck$Kind;") "RuleDeck$Kind" "takesRun" "Z") (.int 1)) (List.mem_of_getElem? (i := 154) rfl))
      | 8, _ => exact (hs (.eq (.field (.static "RuleDeck$Kind" "CORNER" "LRuleDeck$Kind;") "RuleDeck$Kind" "takesRun" "Z") (.int 0)) (List.mem_of_getElem? (i := 40) rfl))
      | 9, _ => exact (hs (.eq (.field (.static "RuleDeck$Kind" "ENCLOSE" "LRuleDeck$Kind;") "RuleDeck$Kind" "takesRun" "Z") (.int 1)) (List.mem_of_getElem? (i := 73) rfl))
      | 10, _ => exact (hs (.eq (.field (.static "RuleDeck$Kind" "OVERLAP" "LRuleDeck$Kind;") "RuleDeck$Kind" "takesRun" "Z") (.int 1)) (List.mem_of_getElem? (i := 171) rfl))
      | i + 11, hi => exact absurd hi (by show ¬ i + 11 < 11; omega)
    · intro i hi
      match i, hi with
      | 0, _ => exact (hs (.eq (.field (.static "RuleDeck$Kind" "WIDTH" "LRuleDeck$Kind;") "RuleDeck$Kind" "takesVolt" "Z") (.int 0)) (List.mem_of_getElem? (i := 10) rfl))
      | 1, _ => exact (hs (.eq (.field (.static "RuleDeck$Kind" "NOTCH" "LRuleDeck$Kind;") "RuleDeck$Kind" "takesVolt" "Z") (.int 0)) (List.mem_of_getElem? (i := 85) rfl))
      | 2, _ => exact (hs (.eq (.field (.static "RuleDeck$Kind" "AREA" "LRuleDeck$Kind;") "RuleDeck$Kind" "takesVolt" "Z") (.int 0)) (List.mem_of_getElem? (i := 97) rfl))
      | 3, _ => exact (hs (.eq (.field (.static "RuleDeck$Kind" "EDGE" "LRuleDeck$Kind;") "RuleDeck$Kind" "takesVolt" "Z") (.int 0)) (List.mem_of_getElem? (i := 110) rfl))
      | 4, _ => exact (hs (.eq (.field (.static "RuleDeck$Kind" "CORNERS" "LRuleDeck$Kind;") "RuleDeck$Kind" "takesVolt" "Z") (.int 0)) (List.mem_of_getElem? (i := 124) rfl))
      | 5, _ => exact (hs (.eq (.field (.static "RuleDeck$Kind" "DENSITY" "LRuleDeck$Kind;") "RuleDeck$Kind" "takesVolt" "Z") (.int 0)) (List.mem_of_getElem? (i := 50) rfl))
      | 6, _ => exact (hs (.eq (.field (.static "RuleDeck$Kind" "COUNT" "LRuleDeck$Kind;") "RuleDeck$Kind" "takesVolt" "Z") (.int 0)) (List.mem_of_getElem? (i := 139) rfl))
      | 7, _ => exact (hs (.eq (.field (.static "RuleDeck$Kind" "SPACE" "LRuleDeck$Kind;") "RuleDeck$Kind" "takesVolt" "Z") (.int 1)) (List.mem_of_getElem? (i := 155) rfl))
      | 8, _ => exact (hs (.eq (.field (.static "RuleDeck$Kind" "CORNER" "LRuleDeck$Kind;") "RuleDeck$Kind" "takesVolt" "Z") (.int 1)) (List.mem_of_getElem? (i := 41) rfl))
      | 9, _ => exact (hs (.eq (.field (.static "RuleDeck$Kind" "ENCLOSE" "LRuleDeck$Kind;") "RuleDeck$Kind" "takesVolt" "Z") (.int 0)) (List.mem_of_getElem? (i := 74) rfl))
      | 10, _ => exact (hs (.eq (.field (.static "RuleDeck$Kind" "OVERLAP" "LRuleDeck$Kind;") "RuleDeck$Kind" "takesVolt" "Z") (.int 0)) (List.mem_of_getElem? (i := 172) rfl))
      | i + 11, hi => exact absurd hi (by show ¬ i + 11 < 11; omega)
    · intro i hi
      match i, hi with
      | 0, _ => exact (hs (.eq (.field (.static "RuleDeck$Kind" "WIDTH" "LRuleDeck$Kind;") "RuleDeck$Kind" "takesEnd" "Z") (.int 0)) (List.mem_of_getElem? (i := 11) rfl))
      | 1, _ => exact (hs (.eq (.field (.static "RuleDeck$Kind" "NOTCH" "LRuleDeck$Kind;") "RuleDeck$Kind" "takesEnd" "Z") (.int 0)) (List.mem_of_getElem? (i := 86) rfl))
      | 2, _ => exact (hs (.eq (.field (.static "RuleDeck$Kind" "AREA" "LRuleDeck$Kind;") "RuleDeck$Kind" "takesEnd" "Z") (.int 0)) (List.mem_of_getElem? (i := 98) rfl))
      | 3, _ => exact (hs (.eq (.field (.static "RuleDeck$Kind" "EDGE" "LRuleDeck$Kind;") "RuleDeck$Kind" "takesEnd" "Z") (.int 0)) (List.mem_of_getElem? (i := 111) rfl))
      | 4, _ => exact (hs (.eq (.field (.static "RuleDeck$Kind" "CORNERS" "LRuleDeck$Kind;") "RuleDeck$Kind" "takesEnd" "Z") (.int 0)) (List.mem_of_getElem? (i := 125) rfl))
      | 5, _ => exact (hs (.eq (.field (.static "RuleDeck$Kind" "DENSITY" "LRuleDeck$Kind;") "RuleDeck$Kind" "takesEnd" "Z") (.int 0)) (List.mem_of_getElem? (i := 51) rfl))
      | 6, _ => exact (hs (.eq (.field (.static "RuleDeck$Kind" "COUNT" "LRuleDeck$Kind;") "RuleDeck$Kind" "takesEnd" "Z") (.int 0)) (List.mem_of_getElem? (i := 140) rfl))
      | 7, _ => exact (hs (.eq (.field (.static "RuleDeck$Kind" "SPACE" "LRuleDeck$Kind;") "RuleDeck$Kind" "takesEnd" "Z") (.int 1)) (List.mem_of_getElem? (i := 156) rfl))
      | 8, _ => exact (hs (.eq (.field (.static "RuleDeck$Kind" "CORNER" "LRuleDeck$Kind;") "RuleDeck$Kind" "takesEnd" "Z") (.int 0)) (List.mem_of_getElem? (i := 42) rfl))
      | 9, _ => exact (hs (.eq (.field (.static "RuleDeck$Kind" "ENCLOSE" "LRuleDeck$Kind;") "RuleDeck$Kind" "takesEnd" "Z") (.int 0)) (List.mem_of_getElem? (i := 75) rfl))
      | 10, _ => exact (hs (.eq (.field (.static "RuleDeck$Kind" "OVERLAP" "LRuleDeck$Kind;") "RuleDeck$Kind" "takesEnd" "Z") (.int 0)) (List.mem_of_getElem? (i := 173) rfl))
      | i + 11, hi => exact absurd hi (by show ¬ i + 11 < 11; omega)
  · intro i j hi hj hij
    match i, hi with
    | 0, _ =>
      match j, hj with
      | 0, _ => exact absurd rfl hij
      | 1, _ => exact Or.inl (hs (.not (.eq (.static "RuleDeck$Kind" "WIDTH" "LRuleDeck$Kind;") (.static "RuleDeck$Kind" "NOTCH" "LRuleDeck$Kind;"))) (List.mem_of_getElem? (i := 87) rfl))
      | 2, _ => exact Or.inl (hs (.not (.eq (.static "RuleDeck$Kind" "WIDTH" "LRuleDeck$Kind;") (.static "RuleDeck$Kind" "AREA" "LRuleDeck$Kind;"))) (List.mem_of_getElem? (i := 99) rfl))
      | 3, _ => exact Or.inl (hs (.not (.eq (.static "RuleDeck$Kind" "WIDTH" "LRuleDeck$Kind;") (.static "RuleDeck$Kind" "EDGE" "LRuleDeck$Kind;"))) (List.mem_of_getElem? (i := 112) rfl))
      | 4, _ => exact Or.inl (hs (.not (.eq (.static "RuleDeck$Kind" "WIDTH" "LRuleDeck$Kind;") (.static "RuleDeck$Kind" "CORNERS" "LRuleDeck$Kind;"))) (List.mem_of_getElem? (i := 126) rfl))
      | 5, _ => exact Or.inl (hs (.not (.eq (.static "RuleDeck$Kind" "WIDTH" "LRuleDeck$Kind;") (.static "RuleDeck$Kind" "DENSITY" "LRuleDeck$Kind;"))) (List.mem_of_getElem? (i := 52) rfl))
      | 6, _ => exact Or.inl (hs (.not (.eq (.static "RuleDeck$Kind" "WIDTH" "LRuleDeck$Kind;") (.static "RuleDeck$Kind" "COUNT" "LRuleDeck$Kind;"))) (List.mem_of_getElem? (i := 141) rfl))
      | 7, _ => exact Or.inl (hs (.not (.eq (.static "RuleDeck$Kind" "WIDTH" "LRuleDeck$Kind;") (.static "RuleDeck$Kind" "SPACE" "LRuleDeck$Kind;"))) (List.mem_of_getElem? (i := 157) rfl))
      | 8, _ => exact Or.inl (hs (.not (.eq (.static "RuleDeck$Kind" "WIDTH" "LRuleDeck$Kind;") (.static "RuleDeck$Kind" "CORNER" "LRuleDeck$Kind;"))) (List.mem_of_getElem? (i := 43) rfl))
      | 9, _ => exact Or.inl (hs (.not (.eq (.static "RuleDeck$Kind" "WIDTH" "LRuleDeck$Kind;") (.static "RuleDeck$Kind" "ENCLOSE" "LRuleDeck$Kind;"))) (List.mem_of_getElem? (i := 76) rfl))
      | 10, _ => exact Or.inl (hs (.not (.eq (.static "RuleDeck$Kind" "WIDTH" "LRuleDeck$Kind;") (.static "RuleDeck$Kind" "OVERLAP" "LRuleDeck$Kind;"))) (List.mem_of_getElem? (i := 174) rfl))
      | j + 11, hj => exact absurd hj (by show ¬ j + 11 < 11; omega)
    | 1, _ =>
      match j, hj with
      | 0, _ => exact Or.inr (hs (.not (.eq (.static "RuleDeck$Kind" "WIDTH" "LRuleDeck$Kind;") (.static "RuleDeck$Kind" "NOTCH" "LRuleDeck$Kind;"))) (List.mem_of_getElem? (i := 87) rfl))
      | 1, _ => exact absurd rfl hij
      | 2, _ => exact Or.inl (hs (.not (.eq (.static "RuleDeck$Kind" "NOTCH" "LRuleDeck$Kind;") (.static "RuleDeck$Kind" "AREA" "LRuleDeck$Kind;"))) (List.mem_of_getElem? (i := 103) rfl))
      | 3, _ => exact Or.inl (hs (.not (.eq (.static "RuleDeck$Kind" "NOTCH" "LRuleDeck$Kind;") (.static "RuleDeck$Kind" "EDGE" "LRuleDeck$Kind;"))) (List.mem_of_getElem? (i := 116) rfl))
      | 4, _ => exact Or.inl (hs (.not (.eq (.static "RuleDeck$Kind" "NOTCH" "LRuleDeck$Kind;") (.static "RuleDeck$Kind" "CORNERS" "LRuleDeck$Kind;"))) (List.mem_of_getElem? (i := 130) rfl))
      | 5, _ => exact Or.inr (hs (.not (.eq (.static "RuleDeck$Kind" "DENSITY" "LRuleDeck$Kind;") (.static "RuleDeck$Kind" "NOTCH" "LRuleDeck$Kind;"))) (List.mem_of_getElem? (i := 89) rfl))
      | 6, _ => exact Or.inl (hs (.not (.eq (.static "RuleDeck$Kind" "NOTCH" "LRuleDeck$Kind;") (.static "RuleDeck$Kind" "COUNT" "LRuleDeck$Kind;"))) (List.mem_of_getElem? (i := 145) rfl))
      | 7, _ => exact Or.inl (hs (.not (.eq (.static "RuleDeck$Kind" "NOTCH" "LRuleDeck$Kind;") (.static "RuleDeck$Kind" "SPACE" "LRuleDeck$Kind;"))) (List.mem_of_getElem? (i := 161) rfl))
      | 8, _ => exact Or.inr (hs (.not (.eq (.static "RuleDeck$Kind" "CORNER" "LRuleDeck$Kind;") (.static "RuleDeck$Kind" "NOTCH" "LRuleDeck$Kind;"))) (List.mem_of_getElem? (i := 88) rfl))
      | 9, _ => exact Or.inr (hs (.not (.eq (.static "RuleDeck$Kind" "ENCLOSE" "LRuleDeck$Kind;") (.static "RuleDeck$Kind" "NOTCH" "LRuleDeck$Kind;"))) (List.mem_of_getElem? (i := 90) rfl))
      | 10, _ => exact Or.inl (hs (.not (.eq (.static "RuleDeck$Kind" "NOTCH" "LRuleDeck$Kind;") (.static "RuleDeck$Kind" "OVERLAP" "LRuleDeck$Kind;"))) (List.mem_of_getElem? (i := 178) rfl))
      | j + 11, hj => exact absurd hj (by show ¬ j + 11 < 11; omega)
    | 2, _ =>
      match j, hj with
      | 0, _ => exact Or.inr (hs (.not (.eq (.static "RuleDeck$Kind" "WIDTH" "LRuleDeck$Kind;") (.static "RuleDeck$Kind" "AREA" "LRuleDeck$Kind;"))) (List.mem_of_getElem? (i := 99) rfl))
      | 1, _ => exact Or.inr (hs (.not (.eq (.static "RuleDeck$Kind" "NOTCH" "LRuleDeck$Kind;") (.static "RuleDeck$Kind" "AREA" "LRuleDeck$Kind;"))) (List.mem_of_getElem? (i := 103) rfl))
      | 2, _ => exact absurd rfl hij
      | 3, _ => exact Or.inl (hs (.not (.eq (.static "RuleDeck$Kind" "AREA" "LRuleDeck$Kind;") (.static "RuleDeck$Kind" "EDGE" "LRuleDeck$Kind;"))) (List.mem_of_getElem? (i := 117) rfl))
      | 4, _ => exact Or.inl (hs (.not (.eq (.static "RuleDeck$Kind" "AREA" "LRuleDeck$Kind;") (.static "RuleDeck$Kind" "CORNERS" "LRuleDeck$Kind;"))) (List.mem_of_getElem? (i := 131) rfl))
      | 5, _ => exact Or.inr (hs (.not (.eq (.static "RuleDeck$Kind" "DENSITY" "LRuleDeck$Kind;") (.static "RuleDeck$Kind" "AREA" "LRuleDeck$Kind;"))) (List.mem_of_getElem? (i := 101) rfl))
      | 6, _ => exact Or.inl (hs (.not (.eq (.static "RuleDeck$Kind" "AREA" "LRuleDeck$Kind;") (.static "RuleDeck$Kind" "COUNT" "LRuleDeck$Kind;"))) (List.mem_of_getElem? (i := 146) rfl))
      | 7, _ => exact Or.inl (hs (.not (.eq (.static "RuleDeck$Kind" "AREA" "LRuleDeck$Kind;") (.static "RuleDeck$Kind" "SPACE" "LRuleDeck$Kind;"))) (List.mem_of_getElem? (i := 162) rfl))
      | 8, _ => exact Or.inr (hs (.not (.eq (.static "RuleDeck$Kind" "CORNER" "LRuleDeck$Kind;") (.static "RuleDeck$Kind" "AREA" "LRuleDeck$Kind;"))) (List.mem_of_getElem? (i := 100) rfl))
      | 9, _ => exact Or.inr (hs (.not (.eq (.static "RuleDeck$Kind" "ENCLOSE" "LRuleDeck$Kind;") (.static "RuleDeck$Kind" "AREA" "LRuleDeck$Kind;"))) (List.mem_of_getElem? (i := 102) rfl))
      | 10, _ => exact Or.inl (hs (.not (.eq (.static "RuleDeck$Kind" "AREA" "LRuleDeck$Kind;") (.static "RuleDeck$Kind" "OVERLAP" "LRuleDeck$Kind;"))) (List.mem_of_getElem? (i := 179) rfl))
      | j + 11, hj => exact absurd hj (by show ¬ j + 11 < 11; omega)
    | 3, _ =>
      match j, hj with
      | 0, _ => exact Or.inr (hs (.not (.eq (.static "RuleDeck$Kind" "WIDTH" "LRuleDeck$Kind;") (.static "RuleDeck$Kind" "EDGE" "LRuleDeck$Kind;"))) (List.mem_of_getElem? (i := 112) rfl))
      | 1, _ => exact Or.inr (hs (.not (.eq (.static "RuleDeck$Kind" "NOTCH" "LRuleDeck$Kind;") (.static "RuleDeck$Kind" "EDGE" "LRuleDeck$Kind;"))) (List.mem_of_getElem? (i := 116) rfl))
      | 2, _ => exact Or.inr (hs (.not (.eq (.static "RuleDeck$Kind" "AREA" "LRuleDeck$Kind;") (.static "RuleDeck$Kind" "EDGE" "LRuleDeck$Kind;"))) (List.mem_of_getElem? (i := 117) rfl))
      | 3, _ => exact absurd rfl hij
      | 4, _ => exact Or.inl (hs (.not (.eq (.static "RuleDeck$Kind" "EDGE" "LRuleDeck$Kind;") (.static "RuleDeck$Kind" "CORNERS" "LRuleDeck$Kind;"))) (List.mem_of_getElem? (i := 132) rfl))
      | 5, _ => exact Or.inr (hs (.not (.eq (.static "RuleDeck$Kind" "DENSITY" "LRuleDeck$Kind;") (.static "RuleDeck$Kind" "EDGE" "LRuleDeck$Kind;"))) (List.mem_of_getElem? (i := 114) rfl))
      | 6, _ => exact Or.inl (hs (.not (.eq (.static "RuleDeck$Kind" "EDGE" "LRuleDeck$Kind;") (.static "RuleDeck$Kind" "COUNT" "LRuleDeck$Kind;"))) (List.mem_of_getElem? (i := 147) rfl))
      | 7, _ => exact Or.inl (hs (.not (.eq (.static "RuleDeck$Kind" "EDGE" "LRuleDeck$Kind;") (.static "RuleDeck$Kind" "SPACE" "LRuleDeck$Kind;"))) (List.mem_of_getElem? (i := 163) rfl))
      | 8, _ => exact Or.inr (hs (.not (.eq (.static "RuleDeck$Kind" "CORNER" "LRuleDeck$Kind;") (.static "RuleDeck$Kind" "EDGE" "LRuleDeck$Kind;"))) (List.mem_of_getElem? (i := 113) rfl))
      | 9, _ => exact Or.inr (hs (.not (.eq (.static "RuleDeck$Kind" "ENCLOSE" "LRuleDeck$Kind;") (.static "RuleDeck$Kind" "EDGE" "LRuleDeck$Kind;"))) (List.mem_of_getElem? (i := 115) rfl))
      | 10, _ => exact Or.inl (hs (.not (.eq (.static "RuleDeck$Kind" "EDGE" "LRuleDeck$Kind;") (.static "RuleDeck$Kind" "OVERLAP" "LRuleDeck$Kind;"))) (List.mem_of_getElem? (i := 180) rfl))
      | j + 11, hj => exact absurd hj (by show ¬ j + 11 < 11; omega)
    | 4, _ =>
      match j, hj with
      | 0, _ => exact Or.inr (hs (.not (.eq (.static "RuleDeck$Kind" "WIDTH" "LRuleDeck$Kind;") (.static "RuleDeck$Kind" "CORNERS" "LRuleDeck$Kind;"))) (List.mem_of_getElem? (i := 126) rfl))
      | 1, _ => exact Or.inr (hs (.not (.eq (.static "RuleDeck$Kind" "NOTCH" "LRuleDeck$Kind;") (.static "RuleDeck$Kind" "CORNERS" "LRuleDeck$Kind;"))) (List.mem_of_getElem? (i := 130) rfl))
      | 2, _ => exact Or.inr (hs (.not (.eq (.static "RuleDeck$Kind" "AREA" "LRuleDeck$Kind;") (.static "RuleDeck$Kind" "CORNERS" "LRuleDeck$Kind;"))) (List.mem_of_getElem? (i := 131) rfl))
      | 3, _ => exact Or.inr (hs (.not (.eq (.static "RuleDeck$Kind" "EDGE" "LRuleDeck$Kind;") (.static "RuleDeck$Kind" "CORNERS" "LRuleDeck$Kind;"))) (List.mem_of_getElem? (i := 132) rfl))
      | 4, _ => exact absurd rfl hij
      | 5, _ => exact Or.inr (hs (.not (.eq (.static "RuleDeck$Kind" "DENSITY" "LRuleDeck$Kind;") (.static "RuleDeck$Kind" "CORNERS" "LRuleDeck$Kind;"))) (List.mem_of_getElem? (i := 128) rfl))
      | 6, _ => exact Or.inl (hs (.not (.eq (.static "RuleDeck$Kind" "CORNERS" "LRuleDeck$Kind;") (.static "RuleDeck$Kind" "COUNT" "LRuleDeck$Kind;"))) (List.mem_of_getElem? (i := 148) rfl))
      | 7, _ => exact Or.inl (hs (.not (.eq (.static "RuleDeck$Kind" "CORNERS" "LRuleDeck$Kind;") (.static "RuleDeck$Kind" "SPACE" "LRuleDeck$Kind;"))) (List.mem_of_getElem? (i := 164) rfl))
      | 8, _ => exact Or.inr (hs (.not (.eq (.static "RuleDeck$Kind" "CORNER" "LRuleDeck$Kind;") (.static "RuleDeck$Kind" "CORNERS" "LRuleDeck$Kind;"))) (List.mem_of_getElem? (i := 127) rfl))
      | 9, _ => exact Or.inr (hs (.not (.eq (.static "RuleDeck$Kind" "ENCLOSE" "LRuleDeck$Kind;") (.static "RuleDeck$Kind" "CORNERS" "LRuleDeck$Kind;"))) (List.mem_of_getElem? (i := 129) rfl))
      | 10, _ => exact Or.inl (hs (.not (.eq (.static "RuleDeck$Kind" "CORNERS" "LRuleDeck$Kind;") (.static "RuleDeck$Kind" "OVERLAP" "LRuleDeck$Kind;"))) (List.mem_of_getElem? (i := 181) rfl))
      | j + 11, hj => exact absurd hj (by show ¬ j + 11 < 11; omega)
    | 5, _ =>
      match j, hj with
      | 0, _ => exact Or.inr (hs (.not (.eq (.static "RuleDeck$Kind" "WIDTH" "LRuleDeck$Kind;") (.static "RuleDeck$Kind" "DENSITY" "LRuleDeck$Kind;"))) (List.mem_of_getElem? (i := 52) rfl))
      | 1, _ => exact Or.inl (hs (.not (.eq (.static "RuleDeck$Kind" "DENSITY" "LRuleDeck$Kind;") (.static "RuleDeck$Kind" "NOTCH" "LRuleDeck$Kind;"))) (List.mem_of_getElem? (i := 89) rfl))
      | 2, _ => exact Or.inl (hs (.not (.eq (.static "RuleDeck$Kind" "DENSITY" "LRuleDeck$Kind;") (.static "RuleDeck$Kind" "AREA" "LRuleDeck$Kind;"))) (List.mem_of_getElem? (i := 101) rfl))
      | 3, _ => exact Or.inl (hs (.not (.eq (.static "RuleDeck$Kind" "DENSITY" "LRuleDeck$Kind;") (.static "RuleDeck$Kind" "EDGE" "LRuleDeck$Kind;"))) (List.mem_of_getElem? (i := 114) rfl))
      | 4, _ => exact Or.inl (hs (.not (.eq (.static "RuleDeck$Kind" "DENSITY" "LRuleDeck$Kind;") (.static "RuleDeck$Kind" "CORNERS" "LRuleDeck$Kind;"))) (List.mem_of_getElem? (i := 128) rfl))
      | 5, _ => exact absurd rfl hij
      | 6, _ => exact Or.inl (hs (.not (.eq (.static "RuleDeck$Kind" "DENSITY" "LRuleDeck$Kind;") (.static "RuleDeck$Kind" "COUNT" "LRuleDeck$Kind;"))) (List.mem_of_getElem? (i := 143) rfl))
      | 7, _ => exact Or.inl (hs (.not (.eq (.static "RuleDeck$Kind" "DENSITY" "LRuleDeck$Kind;") (.static "RuleDeck$Kind" "SPACE" "LRuleDeck$Kind;"))) (List.mem_of_getElem? (i := 159) rfl))
      | 8, _ => exact Or.inr (hs (.not (.eq (.static "RuleDeck$Kind" "CORNER" "LRuleDeck$Kind;") (.static "RuleDeck$Kind" "DENSITY" "LRuleDeck$Kind;"))) (List.mem_of_getElem? (i := 53) rfl))
      | 9, _ => exact Or.inl (hs (.not (.eq (.static "RuleDeck$Kind" "DENSITY" "LRuleDeck$Kind;") (.static "RuleDeck$Kind" "ENCLOSE" "LRuleDeck$Kind;"))) (List.mem_of_getElem? (i := 78) rfl))
      | 10, _ => exact Or.inl (hs (.not (.eq (.static "RuleDeck$Kind" "DENSITY" "LRuleDeck$Kind;") (.static "RuleDeck$Kind" "OVERLAP" "LRuleDeck$Kind;"))) (List.mem_of_getElem? (i := 176) rfl))
      | j + 11, hj => exact absurd hj (by show ¬ j + 11 < 11; omega)
    | 6, _ =>
      match j, hj with
      | 0, _ => exact Or.inr (hs (.not (.eq (.static "RuleDeck$Kind" "WIDTH" "LRuleDeck$Kind;") (.static "RuleDeck$Kind" "COUNT" "LRuleDeck$Kind;"))) (List.mem_of_getElem? (i := 141) rfl))
      | 1, _ => exact Or.inr (hs (.not (.eq (.static "RuleDeck$Kind" "NOTCH" "LRuleDeck$Kind;") (.static "RuleDeck$Kind" "COUNT" "LRuleDeck$Kind;"))) (List.mem_of_getElem? (i := 145) rfl))
      | 2, _ => exact Or.inr (hs (.not (.eq (.static "RuleDeck$Kind" "AREA" "LRuleDeck$Kind;") (.static "RuleDeck$Kind" "COUNT" "LRuleDeck$Kind;"))) (List.mem_of_getElem? (i := 146) rfl))
      | 3, _ => exact Or.inr (hs (.not (.eq (.static "RuleDeck$Kind" "EDGE" "LRuleDeck$Kind;") (.static "RuleDeck$Kind" "COUNT" "LRuleDeck$Kind;"))) (List.mem_of_getElem? (i := 147) rfl))
      | 4, _ => exact Or.inr (hs (.not (.eq (.static "RuleDeck$Kind" "CORNERS" "LRuleDeck$Kind;") (.static "RuleDeck$Kind" "COUNT" "LRuleDeck$Kind;"))) (List.mem_of_getElem? (i := 148) rfl))
      | 5, _ => exact Or.inr (hs (.not (.eq (.static "RuleDeck$Kind" "DENSITY" "LRuleDeck$Kind;") (.static "RuleDeck$Kind" "COUNT" "LRuleDeck$Kind;"))) (List.mem_of_getElem? (i := 143) rfl))
      | 6, _ => exact absurd rfl hij
      | 7, _ => exact Or.inl (hs (.not (.eq (.static "RuleDeck$Kind" "COUNT" "LRuleDeck$Kind;") (.static "RuleDeck$Kind" "SPACE" "LRuleDeck$Kind;"))) (List.mem_of_getElem? (i := 165) rfl))
      | 8, _ => exact Or.inr (hs (.not (.eq (.static "RuleDeck$Kind" "CORNER" "LRuleDeck$Kind;") (.static "RuleDeck$Kind" "COUNT" "LRuleDeck$Kind;"))) (List.mem_of_getElem? (i := 142) rfl))
      | 9, _ => exact Or.inr (hs (.not (.eq (.static "RuleDeck$Kind" "ENCLOSE" "LRuleDeck$Kind;") (.static "RuleDeck$Kind" "COUNT" "LRuleDeck$Kind;"))) (List.mem_of_getElem? (i := 144) rfl))
      | 10, _ => exact Or.inl (hs (.not (.eq (.static "RuleDeck$Kind" "COUNT" "LRuleDeck$Kind;") (.static "RuleDeck$Kind" "OVERLAP" "LRuleDeck$Kind;"))) (List.mem_of_getElem? (i := 182) rfl))
      | j + 11, hj => exact absurd hj (by show ¬ j + 11 < 11; omega)
    | 7, _ =>
      match j, hj with
      | 0, _ => exact Or.inr (hs (.not (.eq (.static "RuleDeck$Kind" "WIDTH" "LRuleDeck$Kind;") (.static "RuleDeck$Kind" "SPACE" "LRuleDeck$Kind;"))) (List.mem_of_getElem? (i := 157) rfl))
      | 1, _ => exact Or.inr (hs (.not (.eq (.static "RuleDeck$Kind" "NOTCH" "LRuleDeck$Kind;") (.static "RuleDeck$Kind" "SPACE" "LRuleDeck$Kind;"))) (List.mem_of_getElem? (i := 161) rfl))
      | 2, _ => exact Or.inr (hs (.not (.eq (.static "RuleDeck$Kind" "AREA" "LRuleDeck$Kind;") (.static "RuleDeck$Kind" "SPACE" "LRuleDeck$Kind;"))) (List.mem_of_getElem? (i := 162) rfl))
      | 3, _ => exact Or.inr (hs (.not (.eq (.static "RuleDeck$Kind" "EDGE" "LRuleDeck$Kind;") (.static "RuleDeck$Kind" "SPACE" "LRuleDeck$Kind;"))) (List.mem_of_getElem? (i := 163) rfl))
      | 4, _ => exact Or.inr (hs (.not (.eq (.static "RuleDeck$Kind" "CORNERS" "LRuleDeck$Kind;") (.static "RuleDeck$Kind" "SPACE" "LRuleDeck$Kind;"))) (List.mem_of_getElem? (i := 164) rfl))
      | 5, _ => exact Or.inr (hs (.not (.eq (.static "RuleDeck$Kind" "DENSITY" "LRuleDeck$Kind;") (.static "RuleDeck$Kind" "SPACE" "LRuleDeck$Kind;"))) (List.mem_of_getElem? (i := 159) rfl))
      | 6, _ => exact Or.inr (hs (.not (.eq (.static "RuleDeck$Kind" "COUNT" "LRuleDeck$Kind;") (.static "RuleDeck$Kind" "SPACE" "LRuleDeck$Kind;"))) (List.mem_of_getElem? (i := 165) rfl))
      | 7, _ => exact absurd rfl hij
      | 8, _ => exact Or.inr (hs (.not (.eq (.static "RuleDeck$Kind" "CORNER" "LRuleDeck$Kind;") (.static "RuleDeck$Kind" "SPACE" "LRuleDeck$Kind;"))) (List.mem_of_getElem? (i := 158) rfl))
      | 9, _ => exact Or.inr (hs (.not (.eq (.static "RuleDeck$Kind" "ENCLOSE" "LRuleDeck$Kind;") (.static "RuleDeck$Kind" "SPACE" "LRuleDeck$Kind;"))) (List.mem_of_getElem? (i := 160) rfl))
      | 10, _ => exact Or.inl (hs (.not (.eq (.static "RuleDeck$Kind" "SPACE" "LRuleDeck$Kind;") (.static "RuleDeck$Kind" "OVERLAP" "LRuleDeck$Kind;"))) (List.mem_of_getElem? (i := 183) rfl))
      | j + 11, hj => exact absurd hj (by show ¬ j + 11 < 11; omega)
    | 8, _ =>
      match j, hj with
      | 0, _ => exact Or.inr (hs (.not (.eq (.static "RuleDeck$Kind" "WIDTH" "LRuleDeck$Kind;") (.static "RuleDeck$Kind" "CORNER" "LRuleDeck$Kind;"))) (List.mem_of_getElem? (i := 43) rfl))
      | 1, _ => exact Or.inl (hs (.not (.eq (.static "RuleDeck$Kind" "CORNER" "LRuleDeck$Kind;") (.static "RuleDeck$Kind" "NOTCH" "LRuleDeck$Kind;"))) (List.mem_of_getElem? (i := 88) rfl))
      | 2, _ => exact Or.inl (hs (.not (.eq (.static "RuleDeck$Kind" "CORNER" "LRuleDeck$Kind;") (.static "RuleDeck$Kind" "AREA" "LRuleDeck$Kind;"))) (List.mem_of_getElem? (i := 100) rfl))
      | 3, _ => exact Or.inl (hs (.not (.eq (.static "RuleDeck$Kind" "CORNER" "LRuleDeck$Kind;") (.static "RuleDeck$Kind" "EDGE" "LRuleDeck$Kind;"))) (List.mem_of_getElem? (i := 113) rfl))
      | 4, _ => exact Or.inl (hs (.not (.eq (.static "RuleDeck$Kind" "CORNER" "LRuleDeck$Kind;") (.static "RuleDeck$Kind" "CORNERS" "LRuleDeck$Kind;"))) (List.mem_of_getElem? (i := 127) rfl))
      | 5, _ => exact Or.inl (hs (.not (.eq (.static "RuleDeck$Kind" "CORNER" "LRuleDeck$Kind;") (.static "RuleDeck$Kind" "DENSITY" "LRuleDeck$Kind;"))) (List.mem_of_getElem? (i := 53) rfl))
      | 6, _ => exact Or.inl (hs (.not (.eq (.static "RuleDeck$Kind" "CORNER" "LRuleDeck$Kind;") (.static "RuleDeck$Kind" "COUNT" "LRuleDeck$Kind;"))) (List.mem_of_getElem? (i := 142) rfl))
      | 7, _ => exact Or.inl (hs (.not (.eq (.static "RuleDeck$Kind" "CORNER" "LRuleDeck$Kind;") (.static "RuleDeck$Kind" "SPACE" "LRuleDeck$Kind;"))) (List.mem_of_getElem? (i := 158) rfl))
      | 8, _ => exact absurd rfl hij
      | 9, _ => exact Or.inl (hs (.not (.eq (.static "RuleDeck$Kind" "CORNER" "LRuleDeck$Kind;") (.static "RuleDeck$Kind" "ENCLOSE" "LRuleDeck$Kind;"))) (List.mem_of_getElem? (i := 77) rfl))
      | 10, _ => exact Or.inl (hs (.not (.eq (.static "RuleDeck$Kind" "CORNER" "LRuleDeck$Kind;") (.static "RuleDeck$Kind" "OVERLAP" "LRuleDeck$Kind;"))) (List.mem_of_getElem? (i := 175) rfl))
      | j + 11, hj => exact absurd hj (by show ¬ j + 11 < 11; omega)
    | 9, _ =>
      match j, hj with
      | 0, _ => exact Or.inr (hs (.not (.eq (.static "RuleDeck$Kind" "WIDTH" "LRuleDeck$Kind;") (.static "RuleDeck$Kind" "ENCLOSE" "LRuleDeck$Kind;"))) (List.mem_of_getElem? (i := 76) rfl))
      | 1, _ => exact Or.inl (hs (.not (.eq (.static "RuleDeck$Kind" "ENCLOSE" "LRuleDeck$Kind;") (.static "RuleDeck$Kind" "NOTCH" "LRuleDeck$Kind;"))) (List.mem_of_getElem? (i := 90) rfl))
      | 2, _ => exact Or.inl (hs (.not (.eq (.static "RuleDeck$Kind" "ENCLOSE" "LRuleDeck$Kind;") (.static "RuleDeck$Kind" "AREA" "LRuleDeck$Kind;"))) (List.mem_of_getElem? (i := 102) rfl))
      | 3, _ => exact Or.inl (hs (.not (.eq (.static "RuleDeck$Kind" "ENCLOSE" "LRuleDeck$Kind;") (.static "RuleDeck$Kind" "EDGE" "LRuleDeck$Kind;"))) (List.mem_of_getElem? (i := 115) rfl))
      | 4, _ => exact Or.inl (hs (.not (.eq (.static "RuleDeck$Kind" "ENCLOSE" "LRuleDeck$Kind;") (.static "RuleDeck$Kind" "CORNERS" "LRuleDeck$Kind;"))) (List.mem_of_getElem? (i := 129) rfl))
      | 5, _ => exact Or.inr (hs (.not (.eq (.static "RuleDeck$Kind" "DENSITY" "LRuleDeck$Kind;") (.static "RuleDeck$Kind" "ENCLOSE" "LRuleDeck$Kind;"))) (List.mem_of_getElem? (i := 78) rfl))
      | 6, _ => exact Or.inl (hs (.not (.eq (.static "RuleDeck$Kind" "ENCLOSE" "LRuleDeck$Kind;") (.static "RuleDeck$Kind" "COUNT" "LRuleDeck$Kind;"))) (List.mem_of_getElem? (i := 144) rfl))
      | 7, _ => exact Or.inl (hs (.not (.eq (.static "RuleDeck$Kind" "ENCLOSE" "LRuleDeck$Kind;") (.static "RuleDeck$Kind" "SPACE" "LRuleDeck$Kind;"))) (List.mem_of_getElem? (i := 160) rfl))
      | 8, _ => exact Or.inr (hs (.not (.eq (.static "RuleDeck$Kind" "CORNER" "LRuleDeck$Kind;") (.static "RuleDeck$Kind" "ENCLOSE" "LRuleDeck$Kind;"))) (List.mem_of_getElem? (i := 77) rfl))
      | 9, _ => exact absurd rfl hij
      | 10, _ => exact Or.inl (hs (.not (.eq (.static "RuleDeck$Kind" "ENCLOSE" "LRuleDeck$Kind;") (.static "RuleDeck$Kind" "OVERLAP" "LRuleDeck$Kind;"))) (List.mem_of_getElem? (i := 177) rfl))
      | j + 11, hj => exact absurd hj (by show ¬ j + 11 < 11; omega)
    | 10, _ =>
      match j, hj with
      | 0, _ => exact Or.inr (hs (.not (.eq (.static "RuleDeck$Kind" "WIDTH" "LRuleDeck$Kind;") (.static "RuleDeck$Kind" "OVERLAP" "LRuleDeck$Kind;"))) (List.mem_of_getElem? (i := 174) rfl))
      | 1, _ => exact Or.inr (hs (.not (.eq (.static "RuleDeck$Kind" "NOTCH" "LRuleDeck$Kind;") (.static "RuleDeck$Kind" "OVERLAP" "LRuleDeck$Kind;"))) (List.mem_of_getElem? (i := 178) rfl))
      | 2, _ => exact Or.inr (hs (.not (.eq (.static "RuleDeck$Kind" "AREA" "LRuleDeck$Kind;") (.static "RuleDeck$Kind" "OVERLAP" "LRuleDeck$Kind;"))) (List.mem_of_getElem? (i := 179) rfl))
      | 3, _ => exact Or.inr (hs (.not (.eq (.static "RuleDeck$Kind" "EDGE" "LRuleDeck$Kind;") (.static "RuleDeck$Kind" "OVERLAP" "LRuleDeck$Kind;"))) (List.mem_of_getElem? (i := 180) rfl))
      | 4, _ => exact Or.inr (hs (.not (.eq (.static "RuleDeck$Kind" "CORNERS" "LRuleDeck$Kind;") (.static "RuleDeck$Kind" "OVERLAP" "LRuleDeck$Kind;"))) (List.mem_of_getElem? (i := 181) rfl))
      | 5, _ => exact Or.inr (hs (.not (.eq (.static "RuleDeck$Kind" "DENSITY" "LRuleDeck$Kind;") (.static "RuleDeck$Kind" "OVERLAP" "LRuleDeck$Kind;"))) (List.mem_of_getElem? (i := 176) rfl))
      | 6, _ => exact Or.inr (hs (.not (.eq (.static "RuleDeck$Kind" "COUNT" "LRuleDeck$Kind;") (.static "RuleDeck$Kind" "OVERLAP" "LRuleDeck$Kind;"))) (List.mem_of_getElem? (i := 182) rfl))
      | 7, _ => exact Or.inr (hs (.not (.eq (.static "RuleDeck$Kind" "SPACE" "LRuleDeck$Kind;") (.static "RuleDeck$Kind" "OVERLAP" "LRuleDeck$Kind;"))) (List.mem_of_getElem? (i := 183) rfl))
      | 8, _ => exact Or.inr (hs (.not (.eq (.static "RuleDeck$Kind" "CORNER" "LRuleDeck$Kind;") (.static "RuleDeck$Kind" "OVERLAP" "LRuleDeck$Kind;"))) (List.mem_of_getElem? (i := 175) rfl))
      | 9, _ => exact Or.inr (hs (.not (.eq (.static "RuleDeck$Kind" "ENCLOSE" "LRuleDeck$Kind;") (.static "RuleDeck$Kind" "OVERLAP" "LRuleDeck$Kind;"))) (List.mem_of_getElem? (i := 177) rfl))
      | 10, _ => exact absurd rfl hij
      | j + 11, hj => exact absurd hj (by show ¬ j + 11 < 11; omega)
    | i + 11, hi => exact absurd hi (by show ¬ i + 11 < 11; omega)
set_option maxHeartbeats 4000000 in
set_option maxRecDepth 100000 in
theorem sv_old2 {s : State} {args : Array Value} (hts : ∀ w ∈ lw_tbl, w.before args s = true) (hgv : (Jvm.Cond.and given_1 narrow_1).before args s = true) : ∃ k v : Nat → Nat, ∀ i, i < 14 → (Term.string (sv_tm.getD i ("", 0)).1 (sv_tm.getD i ("", 0)).2).eval args s none [] s = some (.ref (k i)) ∧ va_O "java/lang/String" (k i) (fun q => s.heap.size ≤ q) s s.heap ∧ va_OF "java/lang/String" "coder" "B" (.int 0) (k i) (fun q => s.heap.size ≤ q) s s.heap ∧ va_OF "java/lang/String" "value" "[B" (.ref (v i)) (k i) (fun q => s.heap.size ≤ q) s s.heap ∧ va_T .byte (v i) (sv_wd.getD i []).length (fun j => .int ((sv_wd.getD i []).getD j 0)) (fun q => s.heap.size ≤ q) s s.heap := by
  have hs := flat_of_before _ hgv
  have hA : ∀ q : Nat, q < s.heap.size → ¬ s.heap.size ≤ q := fun q hq => Nat.not_le.mpr hq
  refine sv_Sof (N := 14) (tm := (fun i => .string (sv_tm.getD i ("", 0)).1 (sv_tm.getD i ("", 0)).2)) (byt := fun i => sv_wd.getD i []) (A := (fun q => s.heap.size ≤ q)) ?_ ?_ ?_ ?_ ?_ ?_ hA
  · decide +kernel
  · intro i hi
    match i, hi with
    | 0, _ => exact (hs (.exactly (.string "RuleDeck$Kind" 78) "java/lang/String") (List.mem_of_getElem? (i := 718) rfl))
    | 1, _ => exact (hs (.exactly (.string "RuleDeck$Kind" 84) "java/lang/String") (List.mem_of_getElem? (i := 759) rfl))
    | 2, _ => exact (hs (.exactly (.string "RuleDeck$Kind" 87) "java/lang/String") (List.mem_of_getElem? (i := 768) rfl))
    | 3, _ => exact (hs (.exactly (.string "RuleDeck$Kind" 90) "java/lang/String") (List.mem_of_getElem? (i := 776) rfl))
    | 4, _ => exact (hs (.exactly (.string "RuleDeck$Kind" 93) "java/lang/String") (List.mem_of_getElem? (i := 784) rfl))
    | 5, _ => exact (hs (.exactly (.string "RuleDeck$Kind" 96) "java/lang/String") (List.mem_of_getElem? (i := 737) rfl))
    | 6, _ => exact (hs (.exactly (.string "RuleDeck$Kind" 99) "java/lang/String") (List.mem_of_getElem? (i := 795) rfl))
    | 7, _ => exact (hs (.exactly (.string "RuleDeck$Kind" 102) "java/lang/String") (List.mem_of_getElem? (i := 804) rfl))
    | 8, _ => exact (hs (.exactly (.string "RuleDeck$Kind" 105) "java/lang/String") (List.mem_of_getElem? (i := 727) rfl))
    | 9, _ => exact (hs (.exactly (.string "RuleDeck$Kind" 108) "java/lang/String") (List.mem_of_getElem? (i := 748) rfl))
    | 10, _ => exact (hs (.exactly (.string "RuleDeck$Kind" 111) "java/lang/String") (List.mem_of_getElem? (i := 813) rfl))
    | 11, _ => exact (hs (.exactly (.string "RuleDeck$Reader" 132) "java/lang/String") (List.mem_of_getElem? (i := 248) rfl))
    | 12, _ => exact (hs (.exactly (.string "RuleDeck$Reader" 140) "java/lang/String") (List.mem_of_getElem? (i := 255) rfl))
    | 13, _ => exact (hs (.exactly (.string "RuleDeck$Reader" 148) "java/lang/String") (List.mem_of_getElem? (i := 263) rfl))
    | i + 14, hi => exact absurd hi (by show ¬ i + 14 < 14; omega)
  · intro i hi
    match i, hi with
    | 0, _ => exact (hs (.eq (.field (.string "RuleDeck$Kind" 78) "java/lang/String" "coder" "B") (.int 0)) (List.mem_of_getElem? (i := 719) rfl))
    | 1, _ => exact (hs (.eq (.field (.string "RuleDeck$Kind" 84) "java/lang/String" "coder" "B") (.int 0)) (List.mem_of_getElem? (i := 760) rfl))
    | 2, _ => exact (hs (.eq (.field (.string "RuleDeck$Kind" 87) "java/lang/String" "coder" "B") (.int 0)) (List.mem_of_getElem? (i := 769) rfl))
    | 3, _ => exact (hs (.eq (.field (.string "RuleDeck$Kind" 90) "java/lang/String" "coder" "B") (.int 0)) (List.mem_of_getElem? (i := 777) rfl))
    | 4, _ => exact (hs (.eq (.field (.string "RuleDeck$Kind" 93) "java/lang/String" "coder" "B") (.int 0)) (List.mem_of_getElem? (i := 785) rfl))
    | 5, _ => exact (hs (.eq (.field (.string "RuleDeck$Kind" 96) "java/lang/String" "coder" "B") (.int 0)) (List.mem_of_getElem? (i := 738) rfl))
    | 6, _ => exact (hs (.eq (.field (.string "RuleDeck$Kind" 99) "java/lang/String" "coder" "B") (.int 0)) (List.mem_of_getElem? (i := 796) rfl))
    | 7, _ => exact (hs (.eq (.field (.string "RuleDeck$Kind" 102) "java/lang/String" "coder" "B") (.int 0)) (List.mem_of_getElem? (i := 805) rfl))
    | 8, _ => exact (hs (.eq (.field (.string "RuleDeck$Kind" 105) "java/lang/String" "coder" "B") (.int 0)) (List.mem_of_getElem? (i := 728) rfl))
    | 9, _ => exact (hs (.eq (.field (.string "RuleDeck$Kind" 108) "java/lang/String" "coder" "B") (.int 0)) (List.mem_of_getElem? (i := 749) rfl))
    | 10, _ => exact (hs (.eq (.field (.string "RuleDeck$Kind" 111) "java/lang/String" "coder" "B") (.int 0)) (List.mem_of_getElem? (i := 814) rfl))
    | 11, _ => exact (hs (.eq (.field (.string "RuleDeck$Reader" 132) "java/lang/String" "coder" "B") (.int 0)) (List.mem_of_getElem? (i := 249) rfl))
    | 12, _ => exact (hs (.eq (.field (.string "RuleDeck$Reader" 140) "java/lang/String" "coder" "B") (.int 0)) (List.mem_of_getElem? (i := 256) rfl))
    | 13, _ => exact (hs (.eq (.field (.string "RuleDeck$Reader" 148) "java/lang/String" "coder" "B") (.int 0)) (List.mem_of_getElem? (i := 264) rfl))
    | i + 14, hi => exact absurd hi (by show ¬ i + 14 < 14; omega)
  · intro i hi
    match i, hi with
    | 0, _ => exact (hs (.arrayOf (.field (.string "RuleDeck$Kind" 78) "java/lang/String" "value" "[B") .byte) (List.mem_of_getElem? (i := 720) rfl))
    | 1, _ => exact (hs (.arrayOf (.field (.string "RuleDeck$Kind" 84) "java/lang/String" "value" "[B") .byte) (List.mem_of_getElem? (i := 761) rfl))
    | 2, _ => exact (hs (.arrayOf (.field (.string "RuleDeck$Kind" 87) "java/lang/String" "value" "[B") .byte) (List.mem_of_getElem? (i := 770) rfl))
    | 3, _ => exact (hs (.arrayOf (.field (.string "RuleDeck$Kind" 90) "java/lang/String" "value" "[B") .byte) (List.mem_of_getElem? (i := 778) rfl))
    | 4, _ => exact (hs (.arrayOf (.field (.string "RuleDeck$Kind" 93) "java/lang/String" "value" "[B") .byte) (List.mem_of_getElem? (i := 786) rfl))
    | 5, _ => exact (hs (.arrayOf (.field (.string "RuleDeck$Kind" 96) "java/lang/String" "value" "[B") .byte) (List.mem_of_getElem? (i := 739) rfl))
    | 6, _ => exact (hs (.arrayOf (.field (.string "RuleDeck$Kind" 99) "java/lang/String" "value" "[B") .byte) (List.mem_of_getElem? (i := 797) rfl))
    | 7, _ => exact (hs (.arrayOf (.field (.string "RuleDeck$Kind" 102) "java/lang/String" "value" "[B") .byte) (List.mem_of_getElem? (i := 806) rfl))
    | 8, _ => exact (hs (.arrayOf (.field (.string "RuleDeck$Kind" 105) "java/lang/String" "value" "[B") .byte) (List.mem_of_getElem? (i := 729) rfl))
    | 9, _ => exact (hs (.arrayOf (.field (.string "RuleDeck$Kind" 108) "java/lang/String" "value" "[B") .byte) (List.mem_of_getElem? (i := 750) rfl))
    | 10, _ => exact (hs (.arrayOf (.field (.string "RuleDeck$Kind" 111) "java/lang/String" "value" "[B") .byte) (List.mem_of_getElem? (i := 815) rfl))
    | 11, _ => exact (hs (.arrayOf (.field (.string "RuleDeck$Reader" 132) "java/lang/String" "value" "[B") .byte) (List.mem_of_getElem? (i := 250) rfl))
    | 12, _ => exact (hs (.arrayOf (.field (.string "RuleDeck$Reader" 140) "java/lang/String" "value" "[B") .byte) (List.mem_of_getElem? (i := 257) rfl))
    | 13, _ => exact (hs (.arrayOf (.field (.string "RuleDeck$Reader" 148) "java/lang/String" "value" "[B") .byte) (List.mem_of_getElem? (i := 265) rfl))
    | i + 14, hi => exact absurd hi (by show ¬ i + 14 < 14; omega)
  · intro i hi
    match i, hi with
    | 0, _ => exact (hs (.eq (.length (.field (.string "RuleDeck$Kind" 78) "java/lang/String" "value" "[B")) (.int 5)) (List.mem_of_getElem? (i := 721) rfl))
    | 1, _ => exact (hs (.eq (.length (.field (.string "RuleDeck$Kind" 84) "java/lang/String" "value" "[B")) (.int 5)) (List.mem_of_getElem? (i := 762) rfl))
    | 2, _ => exact (hs (.eq (.length (.field (.string "RuleDeck$Kind" 87) "java/lang/String" "value" "[B")) (.int 4)) (List.mem_of_getElem? (i := 771) rfl))
    | 3, _ => exact (hs (.eq (.length (.field (.string "RuleDeck$Kind" 90) "java/lang/String" "value" "[B")) (.int 4)) (List.mem_of_getElem? (i := 779) rfl))
    | 4, _ => exact (hs (.eq (.length (.field (.string "RuleDeck$Kind" 93) "java/lang/String" "value" "[B")) (.int 7)) (List.mem_of_getElem? (i := 787) rfl))
    | 5, _ => exact (hs (.eq (.length (.field (.string "RuleDeck$Kind" 96) "java/lang/String" "value" "[B")) (.int 7)) (List.mem_of_getElem? (i := 740) rfl))
    | 6, _ => exact (hs (.eq (.length (.field (.string "RuleDeck$Kind" 99) "java/lang/String" "value" "[B")) (.int 5)) (List.mem_of_getElem? (i := 798) rfl))
    | 7, _ => exact (hs (.eq (.length (.field (.string "RuleDeck$Kind" 102) "java/lang/String" "value" "[B")) (.int 5)) (List.mem_of_getElem? (i := 807) rfl))
    | 8, _ => exact (hs (.eq (.length (.field (.string "RuleDeck$Kind" 105) "java/lang/String" "value" "[B")) (.int 6)) (List.mem_of_getElem? (i := 730) rfl))
    | 9, _ => exact (hs (.eq (.length (.field (.string "RuleDeck$Kind" 108) "java/lang/String" "value" "[B")) (.int 7)) (List.mem_of_getElem? (i := 751) rfl))
    | 10, _ => exact (hs (.eq (.length (.field (.string "RuleDeck$Kind" 111) "java/lang/String" "value" "[B")) (.int 7)) (List.mem_of_getElem? (i := 816) rfl))
    | 11, _ => exact (hs (.eq (.length (.field (.string "RuleDeck$Reader" 132) "java/lang/String" "value" "[B")) (.int 3)) (List.mem_of_getElem? (i := 251) rfl))
    | 12, _ => exact (hs (.eq (.length (.field (.string "RuleDeck$Reader" 140) "java/lang/String" "value" "[B")) (.int 4)) (List.mem_of_getElem? (i := 258) rfl))
    | 13, _ => exact (hs (.eq (.length (.field (.string "RuleDeck$Reader" 148) "java/lang/String" "value" "[B")) (.int 3)) (List.mem_of_getElem? (i := 266) rfl))
    | i + 14, hi => exact absurd hi (by show ¬ i + 14 < 14; omega)
  · intro i hi j hj
    match i, hi with
    | 0, _ =>
      match j, hj with
      | 0, _ => exact (hs (.eq (.elem (.field (.string "RuleDeck$Kind" 78) "java/lang/String" "value" "[B") (.int 0)) (.int 119)) (List.mem_of_getElem? (i := 722) rfl))
      | 1, _ => exact (hs (.eq (.elem (.field (.string "RuleDeck$Kind" 78) "java/lang/String" "value" "[B") (.int 1)) (.int 105)) (List.mem_of_getElem? (i := 723) rfl))
      | 2, _ => exact (hs (.eq (.elem (.field (.string "RuleDeck$Kind" 78) "java/lang/String" "value" "[B") (.int 2)) (.int 100)) (List.mem_of_getElem? (i := 724) rfl))
      | 3, _ => exact (hs (.eq (.elem (.field (.string "RuleDeck$Kind" 78) "java/lang/String" "value" "[B") (.int 3)) (.int 116)) (List.mem_of_getElem? (i := 725) rfl))
      | 4, _ => exact (hs (.eq (.elem (.field (.string "RuleDeck$Kind" 78) "java/lang/String" "value" "[B") (.int 4)) (.int 104)) (List.mem_of_getElem? (i := 726) rfl))
      | j + 5, hj => exact absurd hj (by show ¬ j + 5 < 5; omega)
    | 1, _ =>
      match j, hj with
      | 0, _ => exact (hs (.eq (.elem (.field (.string "RuleDeck$Kind" 84) "java/lang/String" "value" "[B") (.int 0)) (.int 110)) (List.mem_of_getElem? (i := 763) rfl))
      | 1, _ => exact (hs (.eq (.elem (.field (.string "RuleDeck$Kind" 84) "java/lang/String" "value" "[B") (.int 1)) (.int 111)) (List.mem_of_getElem? (i := 764) rfl))
      | 2, _ => exact (hs (.eq (.elem (.field (.string "RuleDeck$Kind" 84) "java/lang/String" "value" "[B") (.int 2)) (.int 116)) (List.mem_of_getElem? (i := 765) rfl))
      | 3, _ => exact (hs (.eq (.elem (.field (.string "RuleDeck$Kind" 84) "java/lang/String" "value" "[B") (.int 3)) (.int 99)) (List.mem_of_getElem? (i := 766) rfl))
      | 4, _ => exact (hs (.eq (.elem (.field (.string "RuleDeck$Kind" 84) "java/lang/String" "value" "[B") (.int 4)) (.int 104)) (List.mem_of_getElem? (i := 767) rfl))
      | j + 5, hj => exact absurd hj (by show ¬ j + 5 < 5; omega)
    | 2, _ =>
      match j, hj with
      | 0, _ => exact (hs (.eq (.elem (.field (.string "RuleDeck$Kind" 87) "java/lang/String" "value" "[B") (.int 0)) (.int 97)) (List.mem_of_getElem? (i := 772) rfl))
      | 1, _ => exact (hs (.eq (.elem (.field (.string "RuleDeck$Kind" 87) "java/lang/String" "value" "[B") (.int 1)) (.int 114)) (List.mem_of_getElem? (i := 773) rfl))
      | 2, _ => exact (hs (.eq (.elem (.field (.string "RuleDeck$Kind" 87) "java/lang/String" "value" "[B") (.int 2)) (.int 101)) (List.mem_of_getElem? (i := 774) rfl))
      | 3, _ => exact (hs (.eq (.elem (.field (.string "RuleDeck$Kind" 87) "java/lang/String" "value" "[B") (.int 3)) (.int 97)) (List.mem_of_getElem? (i := 775) rfl))
      | j + 4, hj => exact absurd hj (by show ¬ j + 4 < 4; omega)
    | 3, _ =>
      match j, hj with
      | 0, _ => exact (hs (.eq (.elem (.field (.string "RuleDeck$Kind" 90) "java/lang/String" "value" "[B") (.int 0)) (.int 101)) (List.mem_of_getElem? (i := 780) rfl))
      | 1, _ => exact (hs (.eq (.elem (.field (.string "RuleDeck$Kind" 90) "java/lang/String" "value" "[B") (.int 1)) (.int 100)) (List.mem_of_getElem? (i := 781) rfl))
      | 2, _ => exact (hs (.eq (.elem (.field (.string "RuleDeck$Kind" 90) "java/lang/String" "value" "[B") (.int 2)) (.int 103)) (List.mem_of_getElem? (i := 782) rfl))
      | 3, _ => exact (hs (.eq (.elem (.field (.string "RuleDeck$Kind" 90) "java/lang/String" "value" "[B") (.int 3)) (.int 101)) (List.mem_of_getElem? (i := 783) rfl))
      | j + 4, hj => exact absurd hj (by show ¬ j + 4 < 4; omega)
    | 4, _ =>
      match j, hj with
      | 0, _ => exact (hs (.eq (.elem (.field (.string "RuleDeck$Kind" 93) "java/lang/String" "value" "[B") (.int 0)) (.int 99)) (List.mem_of_getElem? (i := 788) rfl))
      | 1, _ => exact (hs (.eq (.elem (.field (.string "RuleDeck$Kind" 93) "java/lang/String" "value" "[B") (.int 1)) (.int 111)) (List.mem_of_getElem? (i := 789) rfl))
      | 2, _ => exact (hs (.eq (.elem (.field (.string "RuleDeck$Kind" 93) "java/lang/String" "value" "[B") (.int 2)) (.int 114)) (List.mem_of_getElem? (i := 790) rfl))
      | 3, _ => exact (hs (.eq (.elem (.field (.string "RuleDeck$Kind" 93) "java/lang/String" "value" "[B") (.int 3)) (.int 110)) (List.mem_of_getElem? (i := 791) rfl))
      | 4, _ => exact (hs (.eq (.elem (.field (.string "RuleDeck$Kind" 93) "java/lang/String" "value" "[B") (.int 4)) (.int 101)) (List.mem_of_getElem? (i := 792) rfl))
      | 5, _ => exact (hs (.eq (.elem (.field (.string "RuleDeck$Kind" 93) "java/lang/String" "value" "[B") (.int 5)) (.int 114)) (List.mem_of_getElem? (i := 793) rfl))
      | 6, _ => exact (hs (.eq (.elem (.field (.string "RuleDeck$Kind" 93) "java/lang/String" "value" "[B") (.int 6)) (.int 115)) (List.mem_of_getElem? (i := 794) rfl))
      | j + 7, hj => exact absurd hj (by show ¬ j + 7 < 7; omega)
    | 5, _ =>
      match j, hj with
      | 0, _ => exact (hs (.eq (.elem (.field (.string "RuleDeck$Kind" 96) "java/lang/String" "value" "[B") (.int 0)) (.int 100)) (List.mem_of_getElem? (i := 741) rfl))
      | 1, _ => exact (hs (.eq (.elem (.field (.string "RuleDeck$Kind" 96) "java/lang/String" "value" "[B") (.int 1)) (.int 101)) (List.mem_of_getElem? (i := 742) rfl))
      | 2, _ => exact (hs (.eq (.elem (.field (.string "RuleDeck$Kind" 96) "java/lang/String" "value" "[B") (.int 2)) (.int 110)) (List.mem_of_getElem? (i := 743) rfl))
      | 3, _ => exact (hs (.eq (.elem (.field (.string "RuleDeck$Kind" 96) "java/lang/String" "value" "[B") (.int 3)) (.int 115)) (List.mem_of_getElem? (i := 744) rfl))
      | 4, _ => exact (hs (.eq (.elem (.field (.string "RuleDeck$Kind" 96) "java/lang/String" "value" "[B") (.int 4)) (.int 105)) (List.mem_of_getElem? (i := 745) rfl))
      | 5, _ => exact (hs (.eq (.elem (.field (.string "RuleDeck$Kind" 96) "java/lang/String" "value" "[B") (.int 5)) (.int 116)) (List.mem_of_getElem? (i := 746) rfl))
      | 6, _ => exact (hs (.eq (.elem (.field (.string "RuleDeck$Kind" 96) "java/lang/String" "value" "[B") (.int 6)) (.int 121)) (List.mem_of_getElem? (i := 747) rfl))
      | j + 7, hj => exact absurd hj (by show ¬ j + 7 < 7; omega)
    | 6, _ =>
      match j, hj with
      | 0, _ => exact (hs (.eq (.elem (.field (.string "RuleDeck$Kind" 99) "java/lang/String" "value" "[B") (.int 0)) (.int 99)) (List.mem_of_getElem? (i := 799) rfl))
      | 1, _ => exact (hs (.eq (.elem (.field (.string "RuleDeck$Kind" 99) "java/lang/String" "value" "[B") (.int 1)) (.int 111)) (List.mem_of_getElem? (i := 800) rfl))
      | 2, _ => exact (hs (.eq (.elem (.field (.string "RuleDeck$Kind" 99) "java/lang/String" "value" "[B") (.int 2)) (.int 117)) (List.mem_of_getElem? (i := 801) rfl))
      | 3, _ => exact (hs (.eq (.elem (.field (.string "RuleDeck$Kind" 99) "java/lang/String" "value" "[B") (.int 3)) (.int 110)) (List.mem_of_getElem? (i := 802) rfl))
      | 4, _ => exact (hs (.eq (.elem (.field (.string "RuleDeck$Kind" 99) "java/lang/String" "value" "[B") (.int 4)) (.int 116)) (List.mem_of_getElem? (i := 803) rfl))
      | j + 5, hj => exact absurd hj (by show ¬ j + 5 < 5; omega)
    | 7, _ =>
      match j, hj with
      | 0, _ => exact (hs (.eq (.elem (.field (.string "RuleDeck$Kind" 102) "java/lang/String" "value" "[B") (.int 0)) (.int 115)) (List.mem_of_getElem? (i := 808) rfl))
      | 1, _ => exact (hs (.eq (.elem (.field (.string "RuleDeck$Kind" 102) "java/lang/String" "value" "[B") (.int 1)) (.int 112)) (List.mem_of_getElem? (i := 809) rfl))
      | 2, _ => exact (hs (.eq (.elem (.field (.string "RuleDeck$Kind" 102) "java/lang/String" "value" "[B") (.int 2)) (.int 97)) (List.mem_of_getElem? (i := 810) rfl))
      | 3, _ => exact (hs (.eq (.elem (.field (.string "RuleDeck$Kind" 102) "java/lang/String" "value" "[B") (.int 3)) (.int 99)) (List.mem_of_getElem? (i := 811) rfl))
      | 4, _ => exact (hs (.eq (.elem (.field (.string "RuleDeck$Kind" 102) "java/lang/String" "value" "[B") (.int 4)) (.int 101)) (List.mem_of_getElem? (i := 812) rfl))
      | j + 5, hj => exact absurd hj (by show ¬ j + 5 < 5; omega)
    | 8, _ =>
      match j, hj with
      | 0, _ => exact (hs (.eq (.elem (.field (.string "RuleDeck$Kind" 105) "java/lang/String" "value" "[B") (.int 0)) (.int 99)) (List.mem_of_getElem? (i := 731) rfl))
      | 1, _ => exact (hs (.eq (.elem (.field (.string "RuleDeck$Kind" 105) "java/lang/String" "value" "[B") (.int 1)) (.int 111)) (List.mem_of_getElem? (i := 732) rfl))
      | 2, _ => exact (hs (.eq (.elem (.field (.string "RuleDeck$Kind" 105) "java/lang/String" "value" "[B") (.int 2)) (.int 114)) (List.mem_of_getElem? (i := 733) rfl))
      | 3, _ => exact (hs (.eq (.elem (.field (.string "RuleDeck$Kind" 105) "java/lang/String" "value" "[B") (.int 3)) (.int 110)) (List.mem_of_getElem? (i := 734) rfl))
      | 4, _ => exact (hs (.eq (.elem (.field (.string "RuleDeck$Kind" 105) "java/lang/String" "value" "[B") (.int 4)) (.int 101)) (List.mem_of_getElem? (i := 735) rfl))
      | 5, _ => exact (hs (.eq (.elem (.field (.string "RuleDeck$Kind" 105) "java/lang/String" "value" "[B") (.int 5)) (.int 114)) (List.mem_of_getElem? (i := 736) rfl))
      | j + 6, hj => exact absurd hj (by show ¬ j + 6 < 6; omega)
    | 9, _ =>
      match j, hj with
      | 0, _ => exact (hs (.eq (.elem (.field (.string "RuleDeck$Kind" 108) "java/lang/String" "value" "[B") (.int 0)) (.int 101)) (List.mem_of_getElem? (i := 752) rfl))
      | 1, _ => exact (hs (.eq (.elem (.field (.string "RuleDeck$Kind" 108) "java/lang/String" "value" "[B") (.int 1)) (.int 110)) (List.mem_of_getElem? (i := 753) rfl))
      | 2, _ => exact (hs (.eq (.elem (.field (.string "RuleDeck$Kind" 108) "java/lang/String" "value" "[B") (.int 2)) (.int 99)) (List.mem_of_getElem? (i := 754) rfl))
      | 3, _ => exact (hs (.eq (.elem (.field (.string "RuleDeck$Kind" 108) "java/lang/String" "value" "[B") (.int 3)) (.int 108)) (List.mem_of_getElem? (i := 755) rfl))
      | 4, _ => exact (hs (.eq (.elem (.field (.string "RuleDeck$Kind" 108) "java/lang/String" "value" "[B") (.int 4)) (.int 111)) (List.mem_of_getElem? (i := 756) rfl))
      | 5, _ => exact (hs (.eq (.elem (.field (.string "RuleDeck$Kind" 108) "java/lang/String" "value" "[B") (.int 5)) (.int 115)) (List.mem_of_getElem? (i := 757) rfl))
      | 6, _ => exact (hs (.eq (.elem (.field (.string "RuleDeck$Kind" 108) "java/lang/String" "value" "[B") (.int 6)) (.int 101)) (List.mem_of_getElem? (i := 758) rfl))
      | j + 7, hj => exact absurd hj (by show ¬ j + 7 < 7; omega)
    | 10, _ =>
      match j, hj with
      | 0, _ => exact (hs (.eq (.elem (.field (.string "RuleDeck$Kind" 111) "java/lang/String" "value" "[B") (.int 0)) (.int 111)) (List.mem_of_getElem? (i := 817) rfl))
      | 1, _ => exact (hs (.eq (.elem (.field (.string "RuleDeck$Kind" 111) "java/lang/String" "value" "[B") (.int 1)) (.int 118)) (List.mem_of_getElem? (i := 818) rfl))
      | 2, _ => exact (hs (.eq (.elem (.field (.string "RuleDeck$Kind" 111) "java/lang/String" "value" "[B") (.int 2)) (.int 101)) (List.mem_of_getElem? (i := 819) rfl))
      | 3, _ => exact (hs (.eq (.elem (.field (.string "RuleDeck$Kind" 111) "java/lang/String" "value" "[B") (.int 3)) (.int 114)) (List.mem_of_getElem? (i := 820) rfl))
      | 4, _ => exact (hs (.eq (.elem (.field (.string "RuleDeck$Kind" 111) "java/lang/String" "value" "[B") (.int 4)) (.int 108)) (List.mem_of_getElem? (i := 821) rfl))
      | 5, _ => exact (hs (.eq (.elem (.field (.string "RuleDeck$Kind" 111) "java/lang/String" "value" "[B") (.int 5)) (.int 97)) (List.mem_of_getElem? (i := 822) rfl))
      | 6, _ => exact (hs (.eq (.elem (.field (.string "RuleDeck$Kind" 111) "java/lang/String" "value" "[B") (.int 6)) (.int 112)) (List.mem_of_getElem? (i := 823) rfl))
      | j + 7, hj => exact absurd hj (by show ¬ j + 7 < 7; omega)
    | 11, _ =>
      match j, hj with
      | 0, _ => exact (hs (.eq (.elem (.field (.string "RuleDeck$Reader" 132) "java/lang/String" "value" "[B") (.int 0)) (.int 114)) (List.mem_of_getElem? (i := 252) rfl))
      | 1, _ => exact (hs (.eq (.elem (.field (.string "RuleDeck$Reader" 132) "java/lang/String" "value" "[B") (.int 1)) (.int 117)) (List.mem_of_getElem? (i := 253) rfl))
      | 2, _ => exact (hs (.eq (.elem (.field (.string "RuleDeck$Reader" 132) "java/lang/String" "value" "[B") (.int 2)) (.int 110)) (List.mem_of_getElem? (i := 254) rfl))
      | j + 3, hj => exact absurd hj (by show ¬ j + 3 < 3; omega)
    | 12, _ =>
      match j, hj with
      | 0, _ => exact (hs (.eq (.elem (.field (.string "RuleDeck$Reader" 140) "java/lang/String" "value" "[B") (.int 0)) (.int 118)) (List.mem_of_getElem? (i := 259) rfl))
      | 1, _ => exact (hs (.eq (.elem (.field (.string "RuleDeck$Reader" 140) "java/lang/String" "value" "[B") (.int 1)) (.int 111)) (List.mem_of_getElem? (i := 260) rfl))
      | 2, _ => exact (hs (.eq (.elem (.field (.string "RuleDeck$Reader" 140) "java/lang/String" "value" "[B") (.int 2)) (.int 108)) (List.mem_of_getElem? (i := 261) rfl))
      | 3, _ => exact (hs (.eq (.elem (.field (.string "RuleDeck$Reader" 140) "java/lang/String" "value" "[B") (.int 3)) (.int 116)) (List.mem_of_getElem? (i := 262) rfl))
      | j + 4, hj => exact absurd hj (by show ¬ j + 4 < 4; omega)
    | 13, _ =>
      match j, hj with
      | 0, _ => exact (hs (.eq (.elem (.field (.string "RuleDeck$Reader" 148) "java/lang/String" "value" "[B") (.int 0)) (.int 101)) (List.mem_of_getElem? (i := 267) rfl))
      | 1, _ => exact (hs (.eq (.elem (.field (.string "RuleDeck$Reader" 148) "java/lang/String" "value" "[B") (.int 1)) (.int 110)) (List.mem_of_getElem? (i := 268) rfl))
      | 2, _ => exact (hs (.eq (.elem (.field (.string "RuleDeck$Reader" 148) "java/lang/String" "value" "[B") (.int 2)) (.int 100)) (List.mem_of_getElem? (i := 269) rfl))
      | j + 3, hj => exact absurd hj (by show ¬ j + 3 < 3; omega)
    | i + 14, hi => exact absurd hi (by show ¬ i + 14 < 14; omega)
set_option maxHeartbeats 4000000 in
set_option maxRecDepth 100000 in
theorem sv_old3 {s : State} {args : Array Value} (hts : ∀ w ∈ lw_tbl, w.before args s = true) (hgv : (Jvm.Cond.and given_1 narrow_1).before args s = true) : ∃ (w k v : Nat → Nat) (tA tS : Nat), (∀ i, i < 11 → (Term.static "RuleDeck$Kind" (sv_kn.getD i "") "LRuleDeck$Kind;").eval args s none [] s = some (.ref (w i))) ∧ va_En "RuleDeck$Kind" "LRuleDeck$Kind;" sv_kn sv_kf w (fun q => s.heap.size ≤ q) s s.heap ∧ (∀ i, i < 14 → va_O "java/lang/String" (k i) (fun q => s.heap.size ≤ q) s s.heap ∧ va_OF "java/lang/String" "coder" "B" (.int 0) (k i) (fun q => s.heap.size ≤ q) s s.heap ∧ va_OF "java/lang/String" "value" "[B" (.ref (v i)) (k i) (fun q => s.heap.size ≤ q) s s.heap ∧ va_T .byte (v i) (sv_wd.getD i []).length (fun j => .int ((sv_wd.getD i []).getD j 0)) (fun q => s.heap.size ≤ q) s s.heap) ∧ va_Ef 11 "RuleDeck$Kind" "word" "Ljava/lang/String;" (fun i => .ref (k i)) w (fun q => s.heap.size ≤ q) s s.heap ∧ (va_Z "RuleDeck$Kind" "ALL" "[LRuleDeck$Kind;" (.ref tA) (fun q => s.heap.size ≤ q) s s.heap ∧ va_T (.object "RuleDeck$Kind") tA 11 (fun j => .ref (w j)) (fun q => s.heap.size ≤ q) s s.heap) ∧ (va_Z "RuleDeck$1" "$SwitchMap$RuleDeck$Kind" "[I" (.ref tS) (fun q => s.heap.size ≤ q) s s.heap ∧ va_T .int tS 11 (fun j => .int (sv_sm.getD j 0)) (fun q => s.heap.size ≤ q) s s.heap) ∧ va_Z "java/lang/String" "COMPACT_STRINGS" "Z" (.int 1) (fun q => s.heap.size ≤ q) s s.heap ∧ va_Zq "jdk/internal/util/Preconditions" "SIOOBE_FORMATTER" "Ljava/util/function/BiFunction;" (fun q => s.heap.size ≤ q) s s.heap ∧ vk_R "RuleDeck$Reader" 132 "run" (k 11) s ∧ vk_R "RuleDeck$Reader" 140 "volt" (k 12) s ∧ vk_R "RuleDeck$Reader" 148 "end" (k 13) s := by
  have hs := flat_of_before _ hgv
  have hA : ∀ q : Nat, q < s.heap.size → ¬ s.heap.size ≤ q := fun q hq => Nat.not_le.mpr hq
  obtain ⟨w, hE, ew⟩ := sv_old1 hts hgv
  obtain ⟨k, v, hk⟩ := sv_old2 hts hgv
  have hf : ∀ i, i < 11 → (Cond.eq (.field (.static "RuleDeck$Kind" (sv_kn.getD i "") "LRuleDeck$Kind;") "RuleDeck$Kind" "word" "Ljava/lang/String;") (Term.string (sv_tm.getD i ("", 0)).1 (sv_tm.getD i ("", 0)).2)).before args s = true := by
    intro i hi
    match i, hi with
    | 0, _ => exact (hs (.eq (.field (.static "RuleDeck$Kind" "WIDTH" "LRuleDeck$Kind;") "RuleDeck$Kind" "word" "Ljava/lang/String;") (.string "RuleDeck$Kind" 78)) (List.mem_of_getElem? (i := 6) rfl))
    | 1, _ => exact (hs (.eq (.field (.static "RuleDeck$Kind" "NOTCH" "LRuleDeck$Kind;") "RuleDeck$Kind" "word" "Ljava/lang/String;") (.string "RuleDeck$Kind" 84)) (List.mem_of_getElem? (i := 81) rfl))
    | 2, _ => exact (hs (.eq (.field (.static "RuleDeck$Kind" "AREA" "LRuleDeck$Kind;") "RuleDeck$Kind" "word" "Ljava/lang/String;") (.string "RuleDeck$Kind" 87)) (List.mem_of_getElem? (i := 93) rfl))
    | 3, _ => exact (hs (.eq (.field (.static "RuleDeck$Kind" "EDGE" "LRuleDeck$Kind;") "RuleDeck$Kind" "word" "Ljava/lang/String;") (.string "RuleDeck$Kind" 90)) (List.mem_of_getElem? (i := 106) rfl))
    | 4, _ => exact (hs (.eq (.field (.static "RuleDeck$Kind" "CORNERS" "LRuleDeck$Kind;") "RuleDeck$Kind" "word" "Ljava/lang/String;") (.string "RuleDeck$Kind" 93)) (List.mem_of_getElem? (i := 120) rfl))
    | 5, _ => exact (hs (.eq (.field (.static "RuleDeck$Kind" "DENSITY" "LRuleDeck$Kind;") "RuleDeck$Kind" "word" "Ljava/lang/String;") (.string "RuleDeck$Kind" 96)) (List.mem_of_getElem? (i := 46) rfl))
    | 6, _ => exact (hs (.eq (.field (.static "RuleDeck$Kind" "COUNT" "LRuleDeck$Kind;") "RuleDeck$Kind" "word" "Ljava/lang/String;") (.string "RuleDeck$Kind" 99)) (List.mem_of_getElem? (i := 135) rfl))
    | 7, _ => exact (hs (.eq (.field (.static "RuleDeck$Kind" "SPACE" "LRuleDeck$Kind;") "RuleDeck$Kind" "word" "Ljava/lang/String;") (.string "RuleDeck$Kind" 102)) (List.mem_of_getElem? (i := 151) rfl))
    | 8, _ => exact (hs (.eq (.field (.static "RuleDeck$Kind" "CORNER" "LRuleDeck$Kind;") "RuleDeck$Kind" "word" "Ljava/lang/String;") (.string "RuleDeck$Kind" 105)) (List.mem_of_getElem? (i := 37) rfl))
    | 9, _ => exact (hs (.eq (.field (.static "RuleDeck$Kind" "ENCLOSE" "LRuleDeck$Kind;") "RuleDeck$Kind" "word" "Ljava/lang/String;") (.string "RuleDeck$Kind" 108)) (List.mem_of_getElem? (i := 70) rfl))
    | 10, _ => exact (hs (.eq (.field (.static "RuleDeck$Kind" "OVERLAP" "LRuleDeck$Kind;") "RuleDeck$Kind" "word" "Ljava/lang/String;") (.string "RuleDeck$Kind" 111)) (List.mem_of_getElem? (i := 168) rfl))
    | i + 11, hi => exact absurd hi (by show ¬ i + 11 < 11; omega)
  have hal : ∀ j : Nat, j < 11 → (Term.elem (.static "RuleDeck$Kind" "ALL" "[LRuleDeck$Kind;") (.int (Int32.ofNat j))).eval args s none [] s = some (.ref (w j)) := by
    intro i hi
    match i, hi with
    | 0, _ => exact va_eqv (hs (.eq (.elem (.static "RuleDeck$Kind" "ALL" "[LRuleDeck$Kind;") (.int 0)) (.static "RuleDeck$Kind" "WIDTH" "LRuleDeck$Kind;")) (List.mem_of_getElem? (i := 17) rfl)) (ew 0 (by decide))
    | 1, _ => exact va_eqv (hs (.eq (.elem (.static "RuleDeck$Kind" "ALL" "[LRuleDeck$Kind;") (.int 1)) (.static "RuleDeck$Kind" "NOTCH" "LRuleDeck$Kind;")) (List.mem_of_getElem? (i := 18) rfl)) (ew 1 (by decide))
    | 2, _ => exact va_eqv (hs (.eq (.elem (.static "RuleDeck$Kind" "ALL" "[LRuleDeck$Kind;") (.int 2)) (.static "RuleDeck$Kind" "AREA" "LRuleDeck$Kind;")) (List.mem_of_getElem? (i := 19) rfl)) (ew 2 (by decide))
    | 3, _ => exact va_eqv (hs (.eq (.elem (.static "RuleDeck$Kind" "ALL" "[LRuleDeck$Kind;") (.int 3)) (.static "RuleDeck$Kind" "EDGE" "LRuleDeck$Kind;")) (List.mem_of_getElem? (i := 20) rfl)) (ew 3 (by decide))
    | 4, _ => exact va_eqv (hs (.eq (.elem (.static "RuleDeck$Kind" "ALL" "[LRuleDeck$Kind;") (.int 4)) (.static "RuleDeck$Kind" "CORNERS" "LRuleDeck$Kind;")) (List.mem_of_getElem? (i := 21) rfl)) (ew 4 (by decide))
    | 5, _ => exact va_eqv (hs (.eq (.elem (.static "RuleDeck$Kind" "ALL" "[LRuleDeck$Kind;") (.int 5)) (.static "RuleDeck$Kind" "DENSITY" "LRuleDeck$Kind;")) (List.mem_of_getElem? (i := 22) rfl)) (ew 5 (by decide))
    | 6, _ => exact va_eqv (hs (.eq (.elem (.static "RuleDeck$Kind" "ALL" "[LRuleDeck$Kind;") (.int 6)) (.static "RuleDeck$Kind" "COUNT" "LRuleDeck$Kind;")) (List.mem_of_getElem? (i := 23) rfl)) (ew 6 (by decide))
    | 7, _ => exact va_eqv (hs (.eq (.elem (.static "RuleDeck$Kind" "ALL" "[LRuleDeck$Kind;") (.int 7)) (.static "RuleDeck$Kind" "SPACE" "LRuleDeck$Kind;")) (List.mem_of_getElem? (i := 24) rfl)) (ew 7 (by decide))
    | 8, _ => exact va_eqv (hs (.eq (.elem (.static "RuleDeck$Kind" "ALL" "[LRuleDeck$Kind;") (.int 8)) (.static "RuleDeck$Kind" "CORNER" "LRuleDeck$Kind;")) (List.mem_of_getElem? (i := 25) rfl)) (ew 8 (by decide))
    | 9, _ => exact va_eqv (hs (.eq (.elem (.static "RuleDeck$Kind" "ALL" "[LRuleDeck$Kind;") (.int 9)) (.static "RuleDeck$Kind" "ENCLOSE" "LRuleDeck$Kind;")) (List.mem_of_getElem? (i := 26) rfl)) (ew 9 (by decide))
    | 10, _ => exact va_eqv (hs (.eq (.elem (.static "RuleDeck$Kind" "ALL" "[LRuleDeck$Kind;") (.int 10)) (.static "RuleDeck$Kind" "OVERLAP" "LRuleDeck$Kind;")) (List.mem_of_getElem? (i := 27) rfl)) (ew 10 (by decide))
    | i + 11, hi => exact absurd hi (by show ¬ i + 11 < 11; omega)
  have hsw : ∀ j : Nat, j < 11 → (Term.elem (.static "RuleDeck$1" "$SwitchMap$RuleDeck$Kind" "[I") (.int (Int32.ofNat j))).eval args s none [] s = some (.int (sv_sm.getD j 0)) := by
    intro i hi
    match i, hi with
    | 0, _ => exact va_eqt (hs (.eq (.elem (.static "RuleDeck$1" "$SwitchMap$RuleDeck$Kind" "[I") (.int 0)) (.int 1)) (List.mem_of_getElem? (i := 57) rfl))
    | 1, _ => exact va_eqt (hs (.eq (.elem (.static "RuleDeck$1" "$SwitchMap$RuleDeck$Kind" "[I") (.int 1)) (.int 2)) (List.mem_of_getElem? (i := 58) rfl))
    | 2, _ => exact va_eqt (hs (.eq (.elem (.static "RuleDeck$1" "$SwitchMap$RuleDeck$Kind" "[I") (.int 2)) (.int 3)) (List.mem_of_getElem? (i := 59) rfl))
    | 3, _ => exact va_eqt (hs (.eq (.elem (.static "RuleDeck$1" "$SwitchMap$RuleDeck$Kind" "[I") (.int 3)) (.int 0)) (List.mem_of_getElem? (i := 60) rfl))
    | 4, _ => exact va_eqt (hs (.eq (.elem (.static "RuleDeck$1" "$SwitchMap$RuleDeck$Kind" "[I") (.int 4)) (.int 4)) (List.mem_of_getElem? (i := 61) rfl))
    | 5, _ => exact va_eqt (hs (.eq (.elem (.static "RuleDeck$1" "$SwitchMap$RuleDeck$Kind" "[I") (.int 5)) (.int 0)) (List.mem_of_getElem? (i := 62) rfl))
    | 6, _ => exact va_eqt (hs (.eq (.elem (.static "RuleDeck$1" "$SwitchMap$RuleDeck$Kind" "[I") (.int 6)) (.int 0)) (List.mem_of_getElem? (i := 63) rfl))
    | 7, _ => exact va_eqt (hs (.eq (.elem (.static "RuleDeck$1" "$SwitchMap$RuleDeck$Kind" "[I") (.int 7)) (.int 5)) (List.mem_of_getElem? (i := 64) rfl))
    | 8, _ => exact va_eqt (hs (.eq (.elem (.static "RuleDeck$1" "$SwitchMap$RuleDeck$Kind" "[I") (.int 8)) (.int 6)) (List.mem_of_getElem? (i := 65) rfl))
    | 9, _ => exact va_eqt (hs (.eq (.elem (.static "RuleDeck$1" "$SwitchMap$RuleDeck$Kind" "[I") (.int 9)) (.int 7)) (List.mem_of_getElem? (i := 66) rfl))
    | 10, _ => exact va_eqt (hs (.eq (.elem (.static "RuleDeck$1" "$SwitchMap$RuleDeck$Kind" "[I") (.int 10)) (.int 0)) (List.mem_of_getElem? (i := 67) rfl))
    | i + 11, hi => exact absurd hi (by show ¬ i + 11 < 11; omega)
  obtain ⟨tA, eA, hTA⟩ := va_Tof (tm := (.static "RuleDeck$Kind" "ALL" "[LRuleDeck$Kind;")) (ty := .object "RuleDeck$Kind") (N := 11) (f := fun j => .ref (w j)) (A := (fun q => s.heap.size ≤ q)) (by decide) (hs (.arrayOf (.static "RuleDeck$Kind" "ALL" "[LRuleDeck$Kind;") (.object "RuleDeck$Kind")) (List.mem_of_getElem? (i := 14) rfl)) (va_eqt (hs (.eq (.length (.static "RuleDeck$Kind" "ALL" "[LRuleDeck$Kind;")) (.int 11)) (List.mem_of_getElem? (i := 15) rfl))) hal hA
  obtain ⟨tS, eS, hTS⟩ := va_Tof (tm := (.static "RuleDeck$1" "$SwitchMap$RuleDeck$Kind" "[I")) (ty := .int) (N := 11) (f := fun j => .int (sv_sm.getD j 0)) (A := (fun q => s.heap.size ≤ q)) (by decide) (hs (.arrayOf (.static "RuleDeck$1" "$SwitchMap$RuleDeck$Kind" "[I") .int) (List.mem_of_getElem? (i := 55) rfl)) (va_eqt (hs (.eq (.length (.static "RuleDeck$1" "$SwitchMap$RuleDeck$Kind" "[I")) (.int 11)) (List.mem_of_getElem? (i := 56) rfl))) hsw hA
  exact ⟨w, k, v, tA, tS, ew, hE, fun i hi => (hk i hi).2, va_Efof (nm := sv_kn) (tm := (fun i => .string (sv_tm.getD i ("", 0)).1 (sv_tm.getD i ("", 0)).2)) ew hf (fun i hi => (hk i (by omega)).1) hA, ⟨va_Zref (hts (.laysStatic "RuleDeck$Kind" "ALL" "[LRuleDeck$Kind;") tw_1433) (hts (.initialized "RuleDeck$Kind") tw_1421) eA hA, hTA⟩, ⟨va_Zref (hts (.laysStatic "RuleDeck$1" "$SwitchMap$RuleDeck$Kind" "[I") tw_1434) (hts (.initialized "RuleDeck$1") tw_1435) eS hA, hTS⟩, va_Zof (hts (.laysStatic "java/lang/String" "COMPACT_STRINGS" "Z") tw_1436) (hts (.initialized "java/lang/String") tw_479) (va_eqi (hs (.eq (.static "java/lang/String" "COMPACT_STRINGS" "Z") (.int 1)) (List.mem_of_getElem? (i := 28) rfl))) hA, va_Zqof (hts (.laysStatic "jdk/internal/util/Preconditions" "SIOOBE_FORMATTER" "Ljava/util/function/BiFunction;") tw_1437) (hts (.initialized "jdk/internal/util/Preconditions") tw_500) (hs (.isRef (.static "jdk/internal/util/Preconditions" "SIOOBE_FORMATTER" "Ljava/util/function/BiFunction;")) (List.mem_of_getElem? (i := 29) rfl)) hA, vk_R.of (hts (.stringRef "RuleDeck$Reader" 132 "run") tw_1438) (hk 11 (by decide)).1, vk_R.of (hts (.stringRef "RuleDeck$Reader" 140 "volt") tw_1439) (hk 12 (by decide)).1, vk_R.of (hts (.stringRef "RuleDeck$Reader" 148 "end") tw_1440) (hk 13 (by decide)).1⟩
