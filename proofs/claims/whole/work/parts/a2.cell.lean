theorem iwX1_judgeCell_X1 : ∀ w ∈ wsX10, w ∈ wsX1_judgeCell := by decide +kernel
theorem iwX1_judgeCell_X10 : ∀ w ∈ wsX100, w ∈ wsX1_judgeCell := by decide +kernel
theorem iwX1_judgeCell_X7 : ∀ w ∈ wsX70, w ∈ wsX1_judgeCell := by decide +kernel
theorem iwX1_judgeCell_X8 : ∀ w ∈ wsX80, w ∈ wsX1_judgeCell := by decide +kernel
set_option maxRecDepth 20000 in
theorem ggX1_judgeCell_X8_gather : GoodIn wsX1_judgeCell wsX8_gather := goodIn_r _ [13, 14, 15, 16, 17, 18, 19, 12, 20, 21, 22, 23, 24, 25, 26, 27, 28, 29, 30, 31, 32, 33, 34, 35, 36, 37, 38, 39, 40, 41, 42, 43, 44, 45, 46, 47, 48, 49, 50, 51, 52, 53, 54, 55, 56, 57, 58, 59, 60, 61, 62, 63, 64, 65, 66, 67, 68, 69, 70, 71, 72, 73, 74, 75, 76, 77, 78, 79, 80, 81, 82, 83, 84, 85, 86, 87, 88, 89, 90, 91, 92, 93, 94, 95, 96, 97, 98, 99, 100, 101, 102, 103, 104, 105, 106, 107, 108, 109, 110, 111, 112, 113, 114, 115, 116, 117, 118, 119, 120, 121, 122, 123, 270, 271, 272, 273, 274, 275, 276, 277, 278, 279, 280, 281, 282, 283, 284, 285, 286, 287, 288, 289, 290, 291, 292, 293, 294, 295, 296, 297, 298, 299, 300, 301, 302, 303, 304, 305, 306, 307, 308, 309, 310, 311, 312, 313, 314, 315] (by decide +kernel) (by decide +kernel)
set_option maxRecDepth 20000 in
theorem gX1_judgeCell_X8_gather : GoodIn wsX1_judgeCell (wsV RX1 117 RX8 yX8_gather wsX8_gather) := goodIn_app (goodIn_of _ (by decide +kernel)) ggX1_judgeCell_X8_gather
set_option maxRecDepth 20000 in
theorem ggX1_judgeCell_X1_judgeOne : GoodIn wsX1_judgeCell wsX1_judgeOne := goodIn_r _ [128, 1, 129, 130, 2, 7, 131, 132, 133, 90, 91, 12, 92, 21, 23, 48, 134, 135, 136, 137, 138, 139, 140, 141, 142, 143, 127, 144, 145, 146, 147, 148, 149, 87, 84, 88, 150, 151, 83, 85, 3, 152, 153, 154, 155, 99, 156, 157, 158, 159, 160, 161, 162, 38, 163, 164, 165, 166, 167, 168, 169, 170, 171, 172, 173, 174, 175, 176, 177, 178, 179, 180, 181, 182, 183, 184, 185, 186, 187, 188, 189, 190, 191, 192, 193, 194, 195, 196, 257, 258, 259, 260, 261, 262, 270, 271, 272, 273, 274, 275, 276, 277, 278, 279, 280, 281, 282, 283, 284, 285, 286, 287, 288, 289, 290, 291, 302, 303, 304, 305, 306, 307, 308, 309, 310, 311, 292, 293, 294, 295, 296, 297, 298, 299, 300, 301, 263, 264, 265, 266, 267, 268, 269] (by decide +kernel) (by decide +kernel)
set_option maxRecDepth 20000 in
theorem gX1_judgeCell_X1_judgeOne : GoodIn wsX1_judgeCell (wsV RX1 161 RX1 yX1_judgeOne wsX1_judgeOne) := goodIn_app (goodIn_of _ (by decide +kernel)) ggX1_judgeCell_X1_judgeOne
set_option maxRecDepth 20000 in
theorem ggX1_judgeCell_X8_areMetHere : GoodIn wsX1_judgeCell wsX8_areMetHere := goodIn_r _ [200, 49, 270, 271, 272, 273, 274, 275, 276, 277, 278, 279, 280, 281, 282, 283] (by decide +kernel) (by decide +kernel)
set_option maxRecDepth 20000 in
theorem gX1_judgeCell_X8_areMetHere : GoodIn wsX1_judgeCell (wsV RX1 164 RX8 yX8_areMetHere wsX8_areMetHere) := goodIn_app (goodIn_of _ (by decide +kernel)) ggX1_judgeCell_X8_areMetHere
set_option maxRecDepth 20000 in
theorem ggX1_judgeCell_X1_judgePair : GoodIn wsX1_judgeCell wsX1_judgePair := goodIn_r _ [204, 130, 2, 7, 1, 134, 135, 136, 137, 138, 139, 140, 205, 206, 207, 127, 208, 147, 209, 210, 211, 212, 84, 213, 214, 215, 216, 217, 218, 133, 90, 91, 12, 92, 21, 23, 48, 219, 220, 221, 38, 222, 42, 43, 223, 224, 225, 226, 227, 228, 229, 230, 81, 86, 87, 88, 231, 232, 233, 234, 129, 141, 142, 143, 144, 145, 146, 148, 149, 150, 151, 83, 85, 3, 152, 153, 154, 155, 99, 156, 157, 158, 159, 160, 161, 162, 163, 164, 165, 166, 167, 168, 169, 170, 171, 172, 173, 174, 175, 176, 177, 178, 179, 180, 181, 182, 183, 184, 185, 186, 187, 235, 236, 237, 238, 239, 240, 241, 242, 243, 244, 245, 246, 247, 248, 249, 250, 251, 252, 253, 254, 255, 256, 257, 258, 259, 260, 261, 262, 284, 285, 286, 287, 288, 289, 290, 291, 302, 303, 304, 305, 306, 307, 308, 309, 310, 311, 270, 271, 272, 273, 274, 275, 276, 277, 278, 279, 280, 281, 282, 283, 292, 293, 294, 295, 296, 297, 298, 299, 300, 301, 263, 264, 265, 266, 267, 268, 269] (by decide +kernel) (by decide +kernel)
set_option maxRecDepth 20000 in
theorem gX1_judgeCell_X1_judgePair : GoodIn wsX1_judgeCell (wsV RX1 168 RX1 yX1_judgePair wsX1_judgePair) := goodIn_app (goodIn_of _ (by decide +kernel)) ggX1_judgeCell_X1_judgePair
theorem dX1_judgeCell_0 : decode cX1_judgeCell 0 = .ok (.aload_n 0, 1) := by decide +kernel
theorem dX1_judgeCell_1 : decode cX1_judgeCell 1 = .ok (.getfield 30, 3) := by decide +kernel
theorem dX1_judgeCell_4 : decode cX1_judgeCell 4 = .ok (.iload_n 1, 1) := by decide +kernel
theorem dX1_judgeCell_5 : decode cX1_judgeCell 5 = .ok (.aload_n 0, 1) := by decide +kernel
theorem dX1_judgeCell_6 : decode cX1_judgeCell 6 = .ok (.getfield 41, 3) := by decide +kernel
theorem dX1_judgeCell_9 : decode cX1_judgeCell 9 = .ok (.invokevirtual 117, 3) := by decide +kernel
theorem dX1_judgeCell_12 : decode cX1_judgeCell 12 = .ok (.aload_n 0, 1) := by decide +kernel
theorem dX1_judgeCell_13 : decode cX1_judgeCell 13 = .ok (.getfield 45, 3) := by decide +kernel
theorem dX1_judgeCell_16 : decode cX1_judgeCell 16 = .ok (.iload_n 1, 1) := by decide +kernel
theorem dX1_judgeCell_17 : decode cX1_judgeCell 17 = .ok (.putfield 121, 3) := by decide +kernel
theorem dX1_judgeCell_20 : decode cX1_judgeCell 20 = .ok (.iconst 0, 1) := by decide +kernel
theorem dX1_judgeCell_21 : decode cX1_judgeCell 21 = .ok (.istore_n 2, 1) := by decide +kernel
theorem dX1_judgeCell_22 : decode cX1_judgeCell 22 = .ok (.iload_n 2, 1) := by decide +kernel
theorem dX1_judgeCell_23 : decode cX1_judgeCell 23 = .ok (.aload_n 0, 1) := by decide +kernel
theorem dX1_judgeCell_24 : decode cX1_judgeCell 24 = .ok (.getfield 30, 3) := by decide +kernel
theorem dX1_judgeCell_27 : decode cX1_judgeCell 27 = .ok (.getfield 124, 3) := by decide +kernel
theorem dX1_judgeCell_30 : decode cX1_judgeCell 30 = .ok (.if_icmp .ge 90, 3) := by decide +kernel
theorem dX1_judgeCell_33 : decode cX1_judgeCell 33 = .ok (.aload_n 0, 1) := by decide +kernel
theorem dX1_judgeCell_34 : decode cX1_judgeCell 34 = .ok (.getfield 45, 3) := by decide +kernel
theorem dX1_judgeCell_37 : decode cX1_judgeCell 37 = .ok (.getfield 83, 3) := by decide +kernel
theorem dX1_judgeCell_40 : decode cX1_judgeCell 40 = .ok (.ifCond .ne 80, 3) := by decide +kernel
theorem dX1_judgeCell_43 : decode cX1_judgeCell 43 = .ok (.aload_n 0, 1) := by decide +kernel
theorem dX1_judgeCell_44 : decode cX1_judgeCell 44 = .ok (.getfield 41, 3) := by decide +kernel
theorem dX1_judgeCell_47 : decode cX1_judgeCell 47 = .ok (.getfield 54, 3) := by decide +kernel
theorem dX1_judgeCell_50 : decode cX1_judgeCell 50 = .ok (.getfield 158, 3) := by decide +kernel
theorem dX1_judgeCell_53 : decode cX1_judgeCell 53 = .ok (.iconst 1, 1) := by decide +kernel
theorem dX1_judgeCell_54 : decode cX1_judgeCell 54 = .ok (.if_icmp .ne 11, 3) := by decide +kernel
theorem dX1_judgeCell_57 : decode cX1_judgeCell 57 = .ok (.aload_n 0, 1) := by decide +kernel
theorem dX1_judgeCell_58 : decode cX1_judgeCell 58 = .ok (.iload_n 2, 1) := by decide +kernel
theorem dX1_judgeCell_59 : decode cX1_judgeCell 59 = .ok (.invokevirtual 161, 3) := by decide +kernel
theorem dX1_judgeCell_62 : decode cX1_judgeCell 62 = .ok (.goto 52, 3) := by decide +kernel
theorem dX1_judgeCell_65 : decode cX1_judgeCell 65 = .ok (.iload_n 2, 1) := by decide +kernel
theorem dX1_judgeCell_66 : decode cX1_judgeCell 66 = .ok (.iconst 1, 1) := by decide +kernel
theorem dX1_judgeCell_67 : decode cX1_judgeCell 67 = .ok (.iadd, 1) := by decide +kernel
theorem dX1_judgeCell_68 : decode cX1_judgeCell 68 = .ok (.istore_n 3, 1) := by decide +kernel
theorem dX1_judgeCell_69 : decode cX1_judgeCell 69 = .ok (.iload_n 3, 1) := by decide +kernel
theorem dX1_judgeCell_70 : decode cX1_judgeCell 70 = .ok (.aload_n 0, 1) := by decide +kernel
theorem dX1_judgeCell_71 : decode cX1_judgeCell 71 = .ok (.getfield 30, 3) := by decide +kernel
theorem dX1_judgeCell_74 : decode cX1_judgeCell 74 = .ok (.getfield 124, 3) := by decide +kernel
theorem dX1_judgeCell_77 : decode cX1_judgeCell 77 = .ok (.if_icmp .ge 37, 3) := by decide +kernel
theorem dX1_judgeCell_80 : decode cX1_judgeCell 80 = .ok (.aload_n 0, 1) := by decide +kernel
theorem dX1_judgeCell_81 : decode cX1_judgeCell 81 = .ok (.getfield 45, 3) := by decide +kernel
theorem dX1_judgeCell_84 : decode cX1_judgeCell 84 = .ok (.getfield 83, 3) := by decide +kernel
theorem dX1_judgeCell_87 : decode cX1_judgeCell 87 = .ok (.ifCond .ne 27, 3) := by decide +kernel
theorem dX1_judgeCell_90 : decode cX1_judgeCell 90 = .ok (.aload_n 0, 1) := by decide +kernel
theorem dX1_judgeCell_91 : decode cX1_judgeCell 91 = .ok (.getfield 30, 3) := by decide +kernel
theorem dX1_judgeCell_94 : decode cX1_judgeCell 94 = .ok (.iload_n 2, 1) := by decide +kernel
theorem dX1_judgeCell_95 : decode cX1_judgeCell 95 = .ok (.iload_n 3, 1) := by decide +kernel
theorem dX1_judgeCell_96 : decode cX1_judgeCell 96 = .ok (.invokevirtual 164, 3) := by decide +kernel
theorem dX1_judgeCell_99 : decode cX1_judgeCell 99 = .ok (.ifCond .eq 9, 3) := by decide +kernel
theorem dX1_judgeCell_102 : decode cX1_judgeCell 102 = .ok (.aload_n 0, 1) := by decide +kernel
theorem dX1_judgeCell_103 : decode cX1_judgeCell 103 = .ok (.iload_n 2, 1) := by decide +kernel
theorem dX1_judgeCell_104 : decode cX1_judgeCell 104 = .ok (.iload_n 3, 1) := by decide +kernel
theorem dX1_judgeCell_105 : decode cX1_judgeCell 105 = .ok (.invokevirtual 168, 3) := by decide +kernel
theorem dX1_judgeCell_108 : decode cX1_judgeCell 108 = .ok (.iinc 3 1, 3) := by decide +kernel
theorem dX1_judgeCell_111 : decode cX1_judgeCell 111 = .ok (.goto (-42), 3) := by decide +kernel
theorem dX1_judgeCell_114 : decode cX1_judgeCell 114 = .ok (.iinc 2 1, 3) := by decide +kernel
theorem dX1_judgeCell_117 : decode cX1_judgeCell 117 = .ok (.goto (-95), 3) := by decide +kernel
theorem dX1_judgeCell_120 : decode cX1_judgeCell 120 = .ok (.return_, 1) := by decide +kernel

abbrev mX1_judgeCell : sv_M := (cX1_judgeCell, 4, yX1_judgeCell, wsX1_judgeCell, none, { frames := 27, cells := 0, slots := 0, locals := 700 }, [])
theorem rg_s {α : Type} (F : Nat → List α) (n : Nat) : (List.range (n + 1)).flatMap F = (List.range n).flatMap F ++ F n := by
  rw [List.range_succ, List.flatMap_append, List.flatMap_cons, List.flatMap_nil, List.append_nil]
theorem rg_cut {α : Type} (F : Nat → List α) {d n : Nat} (h : d ≤ n) : ∃ R, (List.range n).flatMap F = (List.range d).flatMap F ++ R := by
  obtain ⟨k, rfl⟩ := Nat.exists_eq_add_of_le h
  induction k with
  | zero => exact ⟨[], (List.append_nil _).symm⟩
  | succ k ih =>
    obtain ⟨R, e⟩ := ih (Nat.le_add_right d k)
    refine ⟨R ++ F (d + k), ?_⟩
    rw [← Nat.add_assoc, rg_s, e, List.append_assoc]
/-- the list's object; whether it is overfull -/
theorem tE.ov {G : sv_G} {h : sv_h} {t : Nat} {hm : Int32} {E : List (List Int64)} (H : tE G h t hm E) : ∃ (x : Nat) (us sz ov : Int32), h t = some (.inr (8, [.ref (t + 1), .int us, .ref (t + 2 + x), .ref (t + 3 - x), .int sz, .int ov, .int hm])) ∧ ((ov = 0 ∧ E.length ≤ 1500) ∨ (ov = 1 ∧ 1500 < E.length ∧ ∀ F, tE G h t hm (E ++ F))) := by
  obtain ⟨x, ro, od, st, us, sz, ov, T, D⟩ := H
  refine ⟨x, us, sz, ov, T.2.1, ?_⟩
  rcases D with ⟨d1, d2, d3, d4, d5⟩ | ⟨d1, d2, d3⟩
  · exact Or.inl ⟨d4, d1⟩
  · exact Or.inr ⟨d3, d1, fun F => ⟨x, ro, od, st, us, sz, ov, T, Or.inr ⟨by rw [List.length_append]; omega, d2, d3⟩⟩⟩
theorem tE.oh {G : sv_G} {h : sv_h} {t : Nat} {hm : Int32} {E : List (List Int64)} (H : tE G h t hm E) : ∃ (x : Nat) (us sz ov : Int32), h t = some (.inr (8, [.ref (t + 1), .int us, .ref (t + 2 + x), .ref (t + 3 - x), .int sz, .int ov, .int hm])) ∧ x ≤ 1 ∧ ∀ (hn : Int32) (h1 : sv_h), h1 t = some (.inr (8, [.ref (t + 1), .int us, .ref (t + 2 + x), .ref (t + 3 - x), .int sz, .int ov, .int hn])) → (∀ a, a ≠ t → h1 a = h a) → tE G h1 t hn E := by
  obtain ⟨x, ro, od, st, us, sz, ov, T, D⟩ := H
  obtain ⟨t0, t1, t2, t3, t4⟩ := T
  exact ⟨x, us, sz, ov, t1, t0, fun hn h1 h1t fr => ⟨x, ro, od, st, us, sz, ov, ⟨t0, h1t, (fr _ (by omega)).trans t2, (fr _ (by omega)).trans t3, (fr _ (by omega)).trans t4⟩, D⟩⟩
theorem tE.kept {G : sv_G} {h h1 : sv_h} {t : Nat} {hm : Int32} {E : List (List Int64)} (H : tE G h t hm E) (fr : ∀ a, t ≤ a → a < t + 4 → h1 a = h a) : tE G h1 t hm E := by
  obtain ⟨x9, ro, od, st, us9, sz9, ov9, T, D⟩ := H
  exact ⟨x9, ro, od, st, us9, sz9, ov9, T.kept fr, D⟩
theorem sk_.frame {G : sv_G} {w3 : Bool} {b : Nat} {sz : Nat → Nat} {X Y : Nat → Nat → Int} {mp : Nat → mvT} {T : List Nat × Nat → Nat → List (Int × Int × Int)} {S : List (List Nat × Nat)} {n : Nat} {h1 h h2 : sv_h} (K : sk_ G w3 b sz X Y mp T S n h1 h) (fr : ∀ a, b + 40 ≤ a → a < b + 48 → h2 a = h a) : sk_ G w3 b sz X Y mp T S n h2 h2 := by
  obtain ⟨⟨fb2, fcx, fcy, k1, k2, k3, k4⟩, ⟨fs9, fa, fr9, ft, k5, k6, k7, k8, k9, kA, kB⟩, ⟨fsp, kC⟩, _⟩ := K
  exact ⟨⟨fb2, fcx, fcy, (fr _ (by omega) (by omega)).trans k1, (fr _ (by omega) (by omega)).trans k2, (fr _ (by omega) (by omega)).trans k3, k4⟩, ⟨fs9, fa, fr9, ft, (fr _ (by omega) (by omega)).trans k5, (fr _ (by omega) (by omega)).trans k6, (fr _ (by omega) (by omega)).trans k7, (fr _ (by omega) (by omega)).trans k8, k9, kA, kB⟩, ⟨fsp, (fr _ (by omega) (by omega)).trans kC⟩, fun _ _ => rfl⟩
theorem sn_.frame {G : sv_G} {b : Nat} {h h2 : sv_h} (N : sn_ G b h) (fr : ∀ a, b + 35 ≤ a → a < b + 164 → h2 a = h a) : sn_ G b h2 := by
  obtain ⟨⟨n, n1⟩, ⟨f1, n2⟩, ⟨f2, n3⟩, ⟨f3, n4⟩, ⟨f4, n5⟩, ⟨f5, n6⟩, ⟨f6, n7⟩, ⟨f7, n8, n8a⟩, ⟨f8, n9⟩, ⟨f9, nA⟩, ⟨fA, nB⟩, ⟨g1, m1, m2⟩, ⟨g2, m3, m4⟩, m5⟩ := N
  refine ⟨⟨n, (fr _ (by omega) (by omega)).trans n1⟩, ⟨f1, (fr _ (by omega) (by omega)).trans n2⟩, ⟨f2, (fr _ (by omega) (by omega)).trans n3⟩, ⟨f3, (fr _ (by omega) (by omega)).trans n4⟩, ⟨f4, (fr _ (by omega) (by omega)).trans n5⟩, ⟨f5, (fr _ (by omega) (by omega)).trans n6⟩, ⟨f6, (fr _ (by omega) (by omega)).trans n7⟩, ⟨f7, (fr _ (by omega) (by omega)).trans n8, n8a⟩, ⟨f8, (fr _ (by omega) (by omega)).trans n9⟩, ⟨f9, (fr _ (by omega) (by omega)).trans nA⟩, ⟨fA, (fr _ (by omega) (by omega)).trans nB⟩, ⟨g1, (fr _ (by omega) (by omega)).trans m1, fun j hj => ⟨(m2 j hj).1, ?_⟩⟩, ⟨g2, (fr _ (by omega) (by omega)).trans m3, fun j hj => ⟨(m4 j hj).1, ?_⟩⟩, (fr _ (by omega) (by omega)).trans m5⟩
  · obtain ⟨_, x0, x1, x2, x3, e⟩ := m2 j hj
    exact ⟨x0, x1, x2, x3, (fr _ (by omega) (by omega)).trans e⟩
  · obtain ⟨_, x0, x1, x2, x3, e⟩ := m4 j hj
    exact ⟨x0, x1, x2, x3, (fr _ (by omega) (by omega)).trans e⟩
theorem slP_ib {P : Nat → Bool} {it : Nat → Int × Int × Int} {n : Nat} (h : ∀ i, i < n → ib (it i)) {x : Nat} (hx : x < (slP P it n).length) : ib ((slP P it n).getD x (0, 0, 0)) := by
  rw [List.getD_eq_getElem?_getD, List.getElem?_eq_getElem hx]
  have := List.getElem_mem hx
  show ib ((slP P it n)[x])
  generalize (slP P it n)[x] = y at this
  unfold slP at this
  obtain ⟨i, h1, rfl⟩ := List.mem_map.mp this
  exact h i (List.mem_range.mp (List.mem_filter.mp h1).1)
theorem sideL_ib {mp : Nat → mvT} {sz : Nat → Nat} {X Y : Nat → Nat → Int} {fc : Nat → Nat → Nat} {q : List Nat × Nat} {f : Nat} (h : cbd (cor mp X Y q) (sz q.2)) {x : Nat} (hx : x < (sideL mp sz X Y fc q f).length) : ib ((sideL mp sz X Y fc q f).getD x (0, 0, 0)) := by
  refine slP_ib (fun i hi => ?_) hx
  have a := h i hi
  have c := h _ (gm_aft_lt hi)
  unfold sideT ib
  split
  · exact ⟨a.1, by show _ ∧ _; dsimp only; omega, by dsimp only; omega⟩
  · exact ⟨a.2, by show _ ∧ _; dsimp only; omega, by dsimp only; omega⟩
theorem cornL_ib {mp : Nat → mvT} {sz : Nat → Nat} {X Y : Nat → Nat → Int} {oc : Nat → Nat → Option Nat} {q : List Nat × Nat} {f : Nat} (h : cbd (cor mp X Y q) (sz q.2)) {x : Nat} (hx : x < (cornL mp sz X Y oc q f).length) : ib ((cornL mp sz X Y oc q f).getD x (0, 0, 0)) := by
  refine slP_ib (fun i hi => ?_) hx
  have a := h i hi
  exact ⟨a.1, a.2, by show (-200000 : Int) ≤ 0; decide, by show (0 : Int) ≤ 200000; decide⟩
theorem st_1600 {T : List Nat × Nat → Nat → List (Int × Int × Int)} {S : List (List Nat × Nat)} (hn : S.length ≤ 100) (h : ∀ i, i < S.length → tt T (S.getD i ([], 0)) 4 ≤ 16) {i f : Nat} (hi : i < S.length) (hf : f < 4) : st_ T S i (f + 1) ≤ 1600 := by
  have a := bs_le (N := S.length) h (i + 1) (by omega)
  have c := tt_le (T := T) (q := S.getD i ([], 0)) (f := f + 1) (g := 4) (by omega)
  have d : bs T S (i + 1) = bs T S i + tt T (S.getD i ([], 0)) 4 := rfl
  unfold st_
  omega
def jMp (kd : Nat) (l1 l2 x3 x4 x5 x6 : Int32) (hmI : Int) (ly vo : Nat → Int32) (mp : Nat → mvT) (sz : Nat → Nat) (X Y : Nat → Nat → Int) (T : List Nat × Nat → Nat → List (Int × Int × Int)) (S : List (List Nat × Nat)) (i j : Nat) : List (List Int64) := if (brn (S.getD i ([], 0)).1 = -1 ∨ ¬ brn (S.getD i ([], 0)).1 = brn (S.getD j ([], 0)).1) then jPr kd l1 l2 x3 x4 x5 x6 hmI ly vo mp sz X Y T S i j else []
/-- all pairs that are met here; all one by one -/
def jPs (kd : Nat) (l1 l2 x3 x4 x5 x6 : Int32) (hmI : Int) (ly vo : Nat → Int32) (mp : Nat → mvT) (sz : Nat → Nat) (X Y : Nat → Nat → Int) (T : List Nat × Nat → Nat → List (Int × Int × Int)) (S : List (List Nat × Nat)) (n : Nat) : List (List Int64) := (List.range n).flatMap (fun i => (List.range (S.length - (i + 1))).flatMap (fun d => jMp kd l1 l2 x3 x4 x5 x6 hmI ly vo mp sz X Y T S i (i + 1 + d)))
def jOs (kd : Nat) (x3 x4 x6 : Int32) (hmI : Int) (ar : Nat → Int32) (mp : Nat → mvT) (sz : Nat → Nat) (X Y : Nat → Nat → Int) (T : List Nat × Nat → Nat → List (Int × Int × Int)) (S : List (List Nat × Nat)) (n : Nat) : List (List Int64) := (List.range n).flatMap (fun i => jOn kd x3 x4 x6 hmI ar mp sz X Y T S i)
set_option maxHeartbeats 4000000 in
set_option maxRecDepth 100000 in
theorem l_ceI (G : sv_G) (Qr : Option Value → sv_h → Nat → Prop) (hki : sv_ki G) (hb : sv_h) (z b : Nat) (k : Int32) (nc np pl : Nat) (R : Nat → Bool) (hm pa sz : Nat → Nat) (ly vo ar : Nat → Int32) (X Y : Nat → Nat → Int) (fc : Nat → Nat → Nat) (oc : Nat → Nat → Option Nat) (mp : Nat → mvT) (w3 : Bool) (T : List Nat × Nat → Nat → List (Int × Int × Int)) (S : List (List Nat × Nat)) (q t : Nat) (n0 : Int64) (kd : Nat) (l1 l2 x3 x4 x5 x6 : Int32) (K : ck_ G w3 b k nc np pl R hm pa sz ly vo ar X Y fc oc mp T S q t n0 kd l1 l2 x3 x4 x5 x6 hb) (hk7 : 7 ≤ kd) (hw : kd ≠ 8 → w3 = true) (hmI : Int) (hbm : bd hmI) (cl : Int32) (i : Nat) (hi : i < S.length) (E0 : List (List Int64)) (hk : ∀ h, (∀ a, ¬ (t ≤ a ∧ a < t + 4) → h a = hb a) → tE G h t (iN hmI) (E0 ++ ((List.range (S.length - (i + 1))).flatMap (fun d9 => jMp kd l1 l2 x3 x4 x5 x6 hmI ly vo mp sz X Y T S i (i + 1 + d9)))) → V G mX1_judgeCell (sv_MQ G mX1_judgeCell Qr) 114 [(2, .int (nI i)), (1, .int cl), (0, .ref (b + 32))] [] h z 0 0) : ∀ (e d : Nat) (h : sv_h), i + 1 + d + e = S.length → (∀ a, ¬ (t ≤ a ∧ a < t + 4) → h a = hb a) → tE G h t (iN hmI) (E0 ++ ((List.range d).flatMap (fun d9 => jMp kd l1 l2 x3 x4 x5 x6 hmI ly vo mp sz X Y T S i (i + 1 + d9)))) → V G mX1_judgeCell (sv_MQ G mX1_judgeCell Qr) 69 [(3, .int (nI (i + 1 + d))), (2, .int (nI i)), (1, .int cl), (0, .ref (b + 32))] [] h z 0 0 := by
  intro e
  induction e with
  | zero =>
    intro d h hde fr H
    obtain ⟨Z, ⟨⟨fb, fcx, fcy, k1, k2, k3, k4⟩, ⟨fs9, fa, fr9, ft, k5, k6, k7, k8, k9, kA, kB⟩, ⟨fsp, kC⟩, _⟩, kD, kE, kF, kG, kH, kI⟩ := id K
    obtain ⟨z0, z1, ⟨fs, z2, z3⟩, ⟨fb_, z4, z5⟩, ⟨fl, z6, z7⟩, z8, z9, ⟨fq, zA, zB⟩, zC, zD, zE, zF⟩ := id Z
    have w1 := (fr (b + 35) (by omega)).trans z1
    have w2 : ab_I G h (b + 37) 100 fs := (fr _ (by omega)).trans z2
    have w4 : ab_I G h (b + 38) 100 fb_ := (fr _ (by omega)).trans z4
    have w6 : ab_Q G h (b + 39) 3 100 fl := (fr _ (by omega)).trans z6
    have w9 := (fr (b + 1) (by omega)).trans z9
    have wA : ab_Q G h (b + 2) 4 64 fq := (fr _ (by omega)).trans zA
    have wB : ab_I G h (b + 40) 400 fb := (fr _ (by omega)).trans k1
    have wC : ab_I G h (b + 44) 401 fs9 := (fr _ (by omega)).trans k5
    have wD : ab_I G h (b + 45) 1600 fa := (fr _ (by omega)).trans k6
    have wE : ab_I G h (b + 46) 1600 fr9 := (fr _ (by omega)).trans k7
    have wF : ab_I G h (b + 47) 1600 ft := (fr _ (by omega)).trans k8
    have wG := (fr (b + 32) (by omega)).trans kD
    have wH := (fr q (by omega)).trans kE
    obtain ⟨x9, us9, sz9, ov9, ht9, ho9⟩ := H.ov
    refine v_iload_n dX1_judgeCell_69 rfl 0 rfl ?_
    refine v_aload_n dX1_judgeCell_70 rfl 3 rfl ?_
    refine v_getf 1 (ci := 0) (C := RX1) (T := TX1) (N := 6) rfl iwX1_judgeCell_X1 (Nat.le_of_ble_eq_true rfl) (by decide +kernel) dX1_judgeCell_71 (by first | with_reducible assumption) rfl ?_
    refine v_getf 2 (ci := 6) (C := RX8) (T := TX8) (N := 14) rfl iwX1_judgeCell_X8 (Nat.le_of_ble_eq_true rfl) (by decide +kernel) dX1_judgeCell_74 (by first | with_reducible assumption) rfl ?_
    refine v_icmp_ge (tgt := 114) dX1_judgeCell_77 (by decide) (fun c_77 => ?_) (fun c_77 => ?_)
    · refine v_sub (L' := [(2, _), (1, _), (0, _)]) [1, 2, 3] rfl ?_
      exact hk h fr (by rw [show S.length - (i + 1) = d by omega]; exact H)
    · exact absurd (nI_le (show S.length ≤ i + 1 + d by omega) (by omega)) c_77
  | succ e ih =>
    intro d h hde fr H
    obtain ⟨Z, ⟨⟨fb, fcx, fcy, k1, k2, k3, k4⟩, ⟨fs9, fa, fr9, ft, k5, k6, k7, k8, k9, kA, kB⟩, ⟨fsp, kC⟩, _⟩, kD, kE, kF, kG, kH, kI⟩ := id K
    obtain ⟨z0, z1, ⟨fs, z2, z3⟩, ⟨fb_, z4, z5⟩, ⟨fl, z6, z7⟩, z8, z9, ⟨fq, zA, zB⟩, zC, zD, zE, zF⟩ := id Z
    have w1 := (fr (b + 35) (by omega)).trans z1
    have w2 : ab_I G h (b + 37) 100 fs := (fr _ (by omega)).trans z2
    have w4 : ab_I G h (b + 38) 100 fb_ := (fr _ (by omega)).trans z4
    have w6 : ab_Q G h (b + 39) 3 100 fl := (fr _ (by omega)).trans z6
    have w9 := (fr (b + 1) (by omega)).trans z9
    have wA : ab_Q G h (b + 2) 4 64 fq := (fr _ (by omega)).trans zA
    have wB : ab_I G h (b + 40) 400 fb := (fr _ (by omega)).trans k1
    have wC : ab_I G h (b + 44) 401 fs9 := (fr _ (by omega)).trans k5
    have wD : ab_I G h (b + 45) 1600 fa := (fr _ (by omega)).trans k6
    have wE : ab_I G h (b + 46) 1600 fr9 := (fr _ (by omega)).trans k7
    have wF : ab_I G h (b + 47) 1600 ft := (fr _ (by omega)).trans k8
    have wG := (fr (b + 32) (by omega)).trans kD
    have wH := (fr q (by omega)).trans kE
    obtain ⟨x9, us9, sz9, ov9, ht9, ho9⟩ := H.ov
    refine v_iload_n dX1_judgeCell_69 rfl 0 rfl ?_
    refine v_aload_n dX1_judgeCell_70 rfl 3 rfl ?_
    refine v_getf 1 (ci := 0) (C := RX1) (T := TX1) (N := 6) rfl iwX1_judgeCell_X1 (Nat.le_of_ble_eq_true rfl) (by decide +kernel) dX1_judgeCell_71 (by first | with_reducible assumption) rfl ?_
    refine v_getf 2 (ci := 6) (C := RX8) (T := TX8) (N := 14) rfl iwX1_judgeCell_X8 (Nat.le_of_ble_eq_true rfl) (by decide +kernel) dX1_judgeCell_74 (by first | with_reducible assumption) rfl ?_
    refine v_icmp_ge (tgt := 114) dX1_judgeCell_77 (by decide) (fun c_77 => ?_) (fun c_77 => ?_)
    · exact absurd c_77 (nI_ge (show i + 1 + d < S.length by omega) (by omega))
    · refine v_aload_n dX1_judgeCell_80 rfl 3 rfl ?_
      refine v_getf 5 (ci := 0) (C := RX1) (T := TX1) (N := 6) rfl iwX1_judgeCell_X1 (Nat.le_of_ble_eq_true rfl) (by decide +kernel) dX1_judgeCell_81 (by first | with_reducible assumption) rfl ?_
      refine v_getf 5 (ci := 8) (C := RX10) (T := TX10) (N := 7) rfl iwX1_judgeCell_X10 (Nat.le_of_ble_eq_true rfl) (by decide +kernel) dX1_judgeCell_84 (by first | with_reducible assumption) rfl ?_
      refine v_if_ne (tgt := 114) dX1_judgeCell_87 (by decide) (fun c_87 => ?_) (fun c_87 => ?_)
      · refine v_sub (L' := [(2, _), (1, _), (0, _)]) [1, 2, 3] rfl ?_
        rcases ho9 with ⟨e9, _⟩ | ⟨_, _, e9⟩
        · exact absurd e9 c_87
        · obtain ⟨R9, r9⟩ := rg_cut (fun d9 => jMp kd l1 l2 x3 x4 x5 x6 hmI ly vo mp sz X Y T S i (i + 1 + d9)) (show d ≤ S.length - (i + 1) by omega)
          exact hk h fr (by rw [r9, ← List.append_assoc]; exact e9 R9)
      · refine v_aload_n dX1_judgeCell_90 rfl 3 rfl ?_
        refine v_getf 1 (ci := 0) (C := RX1) (T := TX1) (N := 6) rfl iwX1_judgeCell_X1 (Nat.le_of_ble_eq_true rfl) (by decide +kernel) dX1_judgeCell_91 (by first | with_reducible assumption) rfl ?_
        refine v_iload_n dX1_judgeCell_94 rfl 1 rfl ?_
        refine v_iload_n dX1_judgeCell_95 rfl 0 rfl ?_
        refine v_callVq (M' := mX8_areMetHere) (n := 2) (As := [_, _]) (ci := 6) (r := (RX8, TX8, 14)) gX1_judgeCell_X8_areMetHere rfl (by decide +kernel) ⟨(Nat.le_of_ble_eq_true rfl), (Nat.le_of_ble_eq_true rfl)⟩ rfl rfl dX1_judgeCell_96 rfl ⟨(Nat.le_of_ble_eq_true rfl), (Nat.le_of_ble_eq_true rfl)⟩ (Nat.le_of_ble_eq_true rfl) (by first | with_reducible assumption) rfl (c_metHere G hb _ b k nc np pl R hm pa sz ly vo ar X Y fc oc mp w3 T S q t n0 kd l1 l2 x3 x4 x5 x6 K h fr i hi (i + 1 + d) (by omega)) (fun v9 h9 y9 hq => v_pq hq ?_)
        refine v_if_eq (tgt := 108) dX1_judgeCell_99 (by decide) (fun c_99 => ?_) (fun c_99 => ?_)
        · refine v_iinc (j := 0) (L' := [(3, _), (2, _), (1, _), (0, _)]) (v := nI (i + 1 + (d + 1))) dX1_judgeCell_108 rfl (nI_1 _) (Nat.le_of_ble_eq_true rfl) rfl ?_
          refine v_goto (tgt := 69) dX1_judgeCell_111 (by decide) ?_
          refine v_sub (L' := [(3, _), (2, _), (1, _), (0, _)]) [0, 1, 2, 3] rfl ?_
          first
            | (have c9 := H1
               refine ih (d + 1) _ (by omega) fr1 ?_
               rw [rg_s, ← List.append_assoc, show jMp kd l1 l2 x3 x4 x5 x6 hmI ly vo mp sz X Y T S i (i + 1 + d) = _ from if_pos (sv_ifn c_99)]
               exact c9)
            | (refine ih (d + 1) _ (by omega) fr ?_
               rw [rg_s, show jMp kd l1 l2 x3 x4 x5 x6 hmI ly vo mp sz X Y T S i (i + 1 + d) = [] from if_neg (sv_ift c_99), List.append_nil]
               exact H)
        · refine v_aload_n dX1_judgeCell_102 rfl 3 rfl ?_
          refine v_iload_n dX1_judgeCell_103 rfl 1 rfl ?_
          refine v_iload_n dX1_judgeCell_104 rfl 0 rfl ?_
          refine v_callVq (M' := mX1_judgePair) (n := 2) (As := [_, _]) (ci := 0) (r := (RX1, TX1, 6)) gX1_judgeCell_X1_judgePair rfl (by decide +kernel) ⟨(Nat.le_of_ble_eq_true rfl), (Nat.le_of_ble_eq_true rfl)⟩ rfl rfl dX1_judgeCell_105 rfl ⟨(Nat.le_of_ble_eq_true rfl), (Nat.le_of_ble_eq_true rfl)⟩ (Nat.le_of_ble_eq_true rfl) (by first | with_reducible assumption) rfl (c_jPair G hki hb _ b k nc np pl R hm pa sz ly vo ar X Y fc oc mp w3 T S q t n0 kd l1 l2 x3 x4 x5 x6 K hk7 hw hmI hbm i hi (i + 1 + d) (by omega) h fr _ H) (fun v h1 y1 hq9 => ?_)
          obtain ⟨rfl, rfl, H1, fr1⟩ := hq9
          refine v_iinc (j := 0) (L' := [(3, _), (2, _), (1, _), (0, _)]) (v := nI (i + 1 + (d + 1))) dX1_judgeCell_108 rfl (nI_1 _) (Nat.le_of_ble_eq_true rfl) rfl ?_
          refine v_goto (tgt := 69) dX1_judgeCell_111 (by decide) ?_
          refine v_sub (L' := [(3, _), (2, _), (1, _), (0, _)]) [0, 1, 2, 3] rfl ?_
          first
            | (have c9 := H1
               refine ih (d + 1) _ (by omega) fr1 ?_
               rw [rg_s, ← List.append_assoc, show jMp kd l1 l2 x3 x4 x5 x6 hmI ly vo mp sz X Y T S i (i + 1 + d) = _ from if_pos (sv_ifn c_99)]
               exact c9)
            | (refine ih (d + 1) _ (by omega) fr ?_
               rw [rg_s, show jMp kd l1 l2 x3 x4 x5 x6 hmI ly vo mp sz X Y T S i (i + 1 + d) = [] from if_neg (sv_ift c_99), List.append_nil]
               exact H)

set_option maxHeartbeats 4000000 in
set_option maxRecDepth 100000 in
theorem l_ceP (G : sv_G) (Qr : Option Value → sv_h → Nat → Prop) (hki : sv_ki G) (hb : sv_h) (z b : Nat) (k : Int32) (nc np pl : Nat) (R : Nat → Bool) (hm pa sz : Nat → Nat) (ly vo ar : Nat → Int32) (X Y : Nat → Nat → Int) (fc : Nat → Nat → Nat) (oc : Nat → Nat → Option Nat) (mp : Nat → mvT) (w3 : Bool) (T : List Nat × Nat → Nat → List (Int × Int × Int)) (S : List (List Nat × Nat)) (q t : Nat) (n0 : Int64) (kd : Nat) (l1 l2 x3 x4 x5 x6 : Int32) (K : ck_ G w3 b k nc np pl R hm pa sz ly vo ar X Y fc oc mp T S q t n0 kd l1 l2 x3 x4 x5 x6 hb) (hk7 : 7 ≤ kd) (hw : kd ≠ 8 → w3 = true) (hmI : Int) (hbm : bd hmI) (cl : Int32) (E0 : List (List Int64)) (hk : ∀ h, (∀ a, ¬ (t ≤ a ∧ a < t + 4) → h a = hb a) → tE G h t (iN hmI) (E0 ++ (jPs kd l1 l2 x3 x4 x5 x6 hmI ly vo mp sz X Y T S S.length)) → Qr none h z) : ∀ (e i : Nat) (h : sv_h), i + e = S.length → (∀ a, ¬ (t ≤ a ∧ a < t + 4) → h a = hb a) → tE G h t (iN hmI) (E0 ++ (jPs kd l1 l2 x3 x4 x5 x6 hmI ly vo mp sz X Y T S i)) → V G mX1_judgeCell (sv_MQ G mX1_judgeCell Qr) 22 [(2, .int (nI i)), (1, .int cl), (0, .ref (b + 32))] [] h z 0 0 := by
  intro e
  induction e with
  | zero =>
    intro i h hie fr H
    obtain ⟨Z, ⟨⟨fb, fcx, fcy, k1, k2, k3, k4⟩, ⟨fs9, fa, fr9, ft, k5, k6, k7, k8, k9, kA, kB⟩, ⟨fsp, kC⟩, _⟩, kD, kE, kF, kG, kH, kI⟩ := id K
    obtain ⟨z0, z1, ⟨fs, z2, z3⟩, ⟨fb_, z4, z5⟩, ⟨fl, z6, z7⟩, z8, z9, ⟨fq, zA, zB⟩, zC, zD, zE, zF⟩ := id Z
    have w1 := (fr (b + 35) (by omega)).trans z1
    have w2 : ab_I G h (b + 37) 100 fs := (fr _ (by omega)).trans z2
    have w4 : ab_I G h (b + 38) 100 fb_ := (fr _ (by omega)).trans z4
    have w6 : ab_Q G h (b + 39) 3 100 fl := (fr _ (by omega)).trans z6
    have w9 := (fr (b + 1) (by omega)).trans z9
    have wA : ab_Q G h (b + 2) 4 64 fq := (fr _ (by omega)).trans zA
    have wB : ab_I G h (b + 40) 400 fb := (fr _ (by omega)).trans k1
    have wC : ab_I G h (b + 44) 401 fs9 := (fr _ (by omega)).trans k5
    have wD : ab_I G h (b + 45) 1600 fa := (fr _ (by omega)).trans k6
    have wE : ab_I G h (b + 46) 1600 fr9 := (fr _ (by omega)).trans k7
    have wF : ab_I G h (b + 47) 1600 ft := (fr _ (by omega)).trans k8
    have wG := (fr (b + 32) (by omega)).trans kD
    have wH := (fr q (by omega)).trans kE
    obtain ⟨x9, us9, sz9, ov9, ht9, ho9⟩ := H.ov
    refine v_iload_n dX1_judgeCell_22 rfl 0 rfl ?_
    refine v_aload_n dX1_judgeCell_23 rfl 2 rfl ?_
    refine v_getf 1 (ci := 0) (C := RX1) (T := TX1) (N := 6) rfl iwX1_judgeCell_X1 (Nat.le_of_ble_eq_true rfl) (by decide +kernel) dX1_judgeCell_24 (by first | with_reducible assumption) rfl ?_
    refine v_getf 2 (ci := 6) (C := RX8) (T := TX8) (N := 14) rfl iwX1_judgeCell_X8 (Nat.le_of_ble_eq_true rfl) (by decide +kernel) dX1_judgeCell_27 (by first | with_reducible assumption) rfl ?_
    refine v_icmp_ge (tgt := 120) dX1_judgeCell_30 (by decide) (fun c_30 => ?_) (fun c_30 => ?_)
    · exact v_ret rfl dX1_judgeCell_120 (Nat.le_of_ble_eq_true rfl) (Nat.le_of_ble_eq_true rfl) (by
                have e9 : i = S.length := by omega
                rw [e9] at H
                exact hk h fr H)
    · exact absurd (nI_le (show S.length ≤ i by omega) (by omega)) c_30
  | succ e ih =>
    intro i h hie fr H
    obtain ⟨Z, ⟨⟨fb, fcx, fcy, k1, k2, k3, k4⟩, ⟨fs9, fa, fr9, ft, k5, k6, k7, k8, k9, kA, kB⟩, ⟨fsp, kC⟩, _⟩, kD, kE, kF, kG, kH, kI⟩ := id K
    obtain ⟨z0, z1, ⟨fs, z2, z3⟩, ⟨fb_, z4, z5⟩, ⟨fl, z6, z7⟩, z8, z9, ⟨fq, zA, zB⟩, zC, zD, zE, zF⟩ := id Z
    have w1 := (fr (b + 35) (by omega)).trans z1
    have w2 : ab_I G h (b + 37) 100 fs := (fr _ (by omega)).trans z2
    have w4 : ab_I G h (b + 38) 100 fb_ := (fr _ (by omega)).trans z4
    have w6 : ab_Q G h (b + 39) 3 100 fl := (fr _ (by omega)).trans z6
    have w9 := (fr (b + 1) (by omega)).trans z9
    have wA : ab_Q G h (b + 2) 4 64 fq := (fr _ (by omega)).trans zA
    have wB : ab_I G h (b + 40) 400 fb := (fr _ (by omega)).trans k1
    have wC : ab_I G h (b + 44) 401 fs9 := (fr _ (by omega)).trans k5
    have wD : ab_I G h (b + 45) 1600 fa := (fr _ (by omega)).trans k6
    have wE : ab_I G h (b + 46) 1600 fr9 := (fr _ (by omega)).trans k7
    have wF : ab_I G h (b + 47) 1600 ft := (fr _ (by omega)).trans k8
    have wG := (fr (b + 32) (by omega)).trans kD
    have wH := (fr q (by omega)).trans kE
    obtain ⟨x9, us9, sz9, ov9, ht9, ho9⟩ := H.ov
    have hi : i < S.length := by omega
    refine v_iload_n dX1_judgeCell_22 rfl 0 rfl ?_
    refine v_aload_n dX1_judgeCell_23 rfl 2 rfl ?_
    refine v_getf 1 (ci := 0) (C := RX1) (T := TX1) (N := 6) rfl iwX1_judgeCell_X1 (Nat.le_of_ble_eq_true rfl) (by decide +kernel) dX1_judgeCell_24 (by first | with_reducible assumption) rfl ?_
    refine v_getf 2 (ci := 6) (C := RX8) (T := TX8) (N := 14) rfl iwX1_judgeCell_X8 (Nat.le_of_ble_eq_true rfl) (by decide +kernel) dX1_judgeCell_27 (by first | with_reducible assumption) rfl ?_
    refine v_icmp_ge (tgt := 120) dX1_judgeCell_30 (by decide) (fun c_30 => ?_) (fun c_30 => ?_)
    · exact absurd c_30 (nI_ge hi (by omega))
    · refine v_aload_n dX1_judgeCell_33 rfl 2 rfl ?_
      refine v_getf 5 (ci := 0) (C := RX1) (T := TX1) (N := 6) rfl iwX1_judgeCell_X1 (Nat.le_of_ble_eq_true rfl) (by decide +kernel) dX1_judgeCell_34 (by first | with_reducible assumption) rfl ?_
      refine v_getf 5 (ci := 8) (C := RX10) (T := TX10) (N := 7) rfl iwX1_judgeCell_X10 (Nat.le_of_ble_eq_true rfl) (by decide +kernel) dX1_judgeCell_37 (by first | with_reducible assumption) rfl ?_
      refine v_if_ne (tgt := 120) dX1_judgeCell_40 (by decide) (fun c_40 => ?_) (fun c_40 => ?_)
      · exact v_ret rfl dX1_judgeCell_120 (Nat.le_of_ble_eq_true rfl) (Nat.le_of_ble_eq_true rfl) (by
                  rcases ho9 with ⟨e9, _⟩ | ⟨_, _, e9⟩
                  · exact absurd e9 c_40
                  · obtain ⟨R9, r9⟩ := rg_cut (fun i => (List.range (S.length - (i + 1))).flatMap (fun d => jMp kd l1 l2 x3 x4 x5 x6 hmI ly vo mp sz X Y T S i (i + 1 + d))) (show i ≤ S.length by omega)
                    refine hk h fr ?_
                    unfold jPs at e9 ⊢
                    rw [r9, ← List.append_assoc]
                    exact e9 R9)
      · refine v_aload_n dX1_judgeCell_43 rfl 2 rfl ?_
        refine v_getf 4 (ci := 0) (C := RX1) (T := TX1) (N := 6) rfl iwX1_judgeCell_X1 (Nat.le_of_ble_eq_true rfl) (by decide +kernel) dX1_judgeCell_44 (by first | with_reducible assumption) rfl ?_
        refine v_getf 1 (ci := 5) (C := RX7) (T := TX7) (N := 8) rfl iwX1_judgeCell_X7 (Nat.le_of_ble_eq_true rfl) (by decide +kernel) dX1_judgeCell_47 (by first | with_reducible assumption) rfl ?_
        refine v_kint (q := ("RuleDeck$Kind", "layers", "I", [1, 1, 1, 1, 1, 1, 1, 2, 2, 2, 2])) kF (by decide) (k_lay kd kF) (by decide +kernel) dX1_judgeCell_50 ?_
        rw [if_neg (show ¬ kd < 7 by omega)]
        refine v_iconst (v := 1) dX1_judgeCell_53 (by decide) ?_
        refine v_icmp_ne (tgt := 65) dX1_judgeCell_54 (by decide) (fun c_54 => ?_) (fun c_54 => ?_)
        · refine v_iload_n dX1_judgeCell_65 rfl 0 rfl ?_
          refine v_iconst (v := 1) dX1_judgeCell_66 (by decide) ?_
          refine v_iadd dX1_judgeCell_67 ?_
          rw [nI_1]
          refine v_istore_n (L' := [(3, _), (2, _), (1, _), (0, _)]) dX1_judgeCell_68 rfl (Nat.le_of_ble_eq_true rfl) rfl ?_
          refine v_sub (L' := [(3, _), (2, _), (1, _), (0, _)]) [0, 1, 2, 3] rfl ?_
          refine l_ceI G Qr hki hb _ b k nc np pl R hm pa sz ly vo ar X Y fc oc mp w3 T S q t n0 kd l1 l2 x3 x4 x5 x6 K hk7 hw hmI hbm cl i hi (E0 ++ (jPs kd l1 l2 x3 x4 x5 x6 hmI ly vo mp sz X Y T S i)) (fun h2 fr2 H2 => ?_) (S.length - (i + 1)) 0 h (by omega) fr (by rw [show ((List.range 0).flatMap (fun d9 => jMp kd l1 l2 x3 x4 x5 x6 hmI ly vo mp sz X Y T S i (i + 1 + d9))) = [] from rfl, List.append_nil]; exact H)
          refine v_iinc (j := 0) (L' := [(2, _), (1, _), (0, _)]) (v := nI (i + 1)) dX1_judgeCell_114 rfl (nI_1 _) (Nat.le_of_ble_eq_true rfl) rfl ?_
          refine v_goto (tgt := 22) dX1_judgeCell_117 (by decide) ?_
          refine v_sub (L' := [(2, _), (1, _), (0, _)]) [0, 1, 2] rfl ?_
          refine ih (i + 1) h2 (by omega) fr2 ?_
          unfold jPs at H2 ⊢
          rw [rg_s, ← List.append_assoc]
          exact H2
        · exact absurd c_54 (by decide)

set_option maxHeartbeats 4000000 in
set_option maxRecDepth 100000 in
theorem l_ceS (G : sv_G) (Qr : Option Value → sv_h → Nat → Prop) (hki : sv_ki G) (hb : sv_h) (z b : Nat) (k : Int32) (nc np pl : Nat) (R : Nat → Bool) (hm pa sz : Nat → Nat) (ly vo ar : Nat → Int32) (X Y : Nat → Nat → Int) (fc : Nat → Nat → Nat) (oc : Nat → Nat → Option Nat) (mp : Nat → mvT) (w3 : Bool) (T : List Nat × Nat → Nat → List (Int × Int × Int)) (S : List (List Nat × Nat)) (q t : Nat) (n0 : Int64) (kd : Nat) (l1 l2 x3 x4 x5 x6 : Int32) (K : ck_ G w3 b k nc np pl R hm pa sz ly vo ar X Y fc oc mp T S q t n0 kd l1 l2 x3 x4 x5 x6 hb) (hk5 : kd < 5) (hw : w3 = true) (har : ∀ i, i < S.length → bd (ar (S.getD i ([], 0)).2).toInt) (hmI : Int) (hbm : bd hmI) (cl : Int32) (E0 : List (List Int64)) (hk : ∀ h, (∀ a, ¬ (t ≤ a ∧ a < t + 4) → h a = hb a) → tE G h t (iN hmI) (E0 ++ (jOs kd x3 x4 x6 hmI ar mp sz X Y T S S.length)) → Qr none h z) : ∀ (e i : Nat) (h : sv_h), i + e = S.length → (∀ a, ¬ (t ≤ a ∧ a < t + 4) → h a = hb a) → tE G h t (iN hmI) (E0 ++ (jOs kd x3 x4 x6 hmI ar mp sz X Y T S i)) → V G mX1_judgeCell (sv_MQ G mX1_judgeCell Qr) 22 [(2, .int (nI i)), (1, .int cl), (0, .ref (b + 32))] [] h z 0 0 := by
  intro e
  induction e with
  | zero =>
    intro i h hie fr H
    obtain ⟨Z, ⟨⟨fb, fcx, fcy, k1, k2, k3, k4⟩, ⟨fs9, fa, fr9, ft, k5, k6, k7, k8, k9, kA, kB⟩, ⟨fsp, kC⟩, _⟩, kD, kE, kF, kG, kH, kI⟩ := id K
    obtain ⟨z0, z1, ⟨fs, z2, z3⟩, ⟨fb_, z4, z5⟩, ⟨fl, z6, z7⟩, z8, z9, ⟨fq, zA, zB⟩, zC, zD, zE, zF⟩ := id Z
    have w1 := (fr (b + 35) (by omega)).trans z1
    have w2 : ab_I G h (b + 37) 100 fs := (fr _ (by omega)).trans z2
    have w4 : ab_I G h (b + 38) 100 fb_ := (fr _ (by omega)).trans z4
    have w6 : ab_Q G h (b + 39) 3 100 fl := (fr _ (by omega)).trans z6
    have w9 := (fr (b + 1) (by omega)).trans z9
    have wA : ab_Q G h (b + 2) 4 64 fq := (fr _ (by omega)).trans zA
    have wB : ab_I G h (b + 40) 400 fb := (fr _ (by omega)).trans k1
    have wC : ab_I G h (b + 44) 401 fs9 := (fr _ (by omega)).trans k5
    have wD : ab_I G h (b + 45) 1600 fa := (fr _ (by omega)).trans k6
    have wE : ab_I G h (b + 46) 1600 fr9 := (fr _ (by omega)).trans k7
    have wF : ab_I G h (b + 47) 1600 ft := (fr _ (by omega)).trans k8
    have wG := (fr (b + 32) (by omega)).trans kD
    have wH := (fr q (by omega)).trans kE
    obtain ⟨x9, us9, sz9, ov9, ht9, ho9⟩ := H.ov
    refine v_iload_n dX1_judgeCell_22 rfl 0 rfl ?_
    refine v_aload_n dX1_judgeCell_23 rfl 2 rfl ?_
    refine v_getf 1 (ci := 0) (C := RX1) (T := TX1) (N := 6) rfl iwX1_judgeCell_X1 (Nat.le_of_ble_eq_true rfl) (by decide +kernel) dX1_judgeCell_24 (by first | with_reducible assumption) rfl ?_
    refine v_getf 2 (ci := 6) (C := RX8) (T := TX8) (N := 14) rfl iwX1_judgeCell_X8 (Nat.le_of_ble_eq_true rfl) (by decide +kernel) dX1_judgeCell_27 (by first | with_reducible assumption) rfl ?_
    refine v_icmp_ge (tgt := 120) dX1_judgeCell_30 (by decide) (fun c_30 => ?_) (fun c_30 => ?_)
    · exact v_ret rfl dX1_judgeCell_120 (Nat.le_of_ble_eq_true rfl) (Nat.le_of_ble_eq_true rfl) (by
                have e9 : i = S.length := by omega
                rw [e9] at H
                exact hk h fr H)
    · exact absurd (nI_le (show S.length ≤ i by omega) (by omega)) c_30
  | succ e ih =>
    intro i h hie fr H
    obtain ⟨Z, ⟨⟨fb, fcx, fcy, k1, k2, k3, k4⟩, ⟨fs9, fa, fr9, ft, k5, k6, k7, k8, k9, kA, kB⟩, ⟨fsp, kC⟩, _⟩, kD, kE, kF, kG, kH, kI⟩ := id K
    obtain ⟨z0, z1, ⟨fs, z2, z3⟩, ⟨fb_, z4, z5⟩, ⟨fl, z6, z7⟩, z8, z9, ⟨fq, zA, zB⟩, zC, zD, zE, zF⟩ := id Z
    have w1 := (fr (b + 35) (by omega)).trans z1
    have w2 : ab_I G h (b + 37) 100 fs := (fr _ (by omega)).trans z2
    have w4 : ab_I G h (b + 38) 100 fb_ := (fr _ (by omega)).trans z4
    have w6 : ab_Q G h (b + 39) 3 100 fl := (fr _ (by omega)).trans z6
    have w9 := (fr (b + 1) (by omega)).trans z9
    have wA : ab_Q G h (b + 2) 4 64 fq := (fr _ (by omega)).trans zA
    have wB : ab_I G h (b + 40) 400 fb := (fr _ (by omega)).trans k1
    have wC : ab_I G h (b + 44) 401 fs9 := (fr _ (by omega)).trans k5
    have wD : ab_I G h (b + 45) 1600 fa := (fr _ (by omega)).trans k6
    have wE : ab_I G h (b + 46) 1600 fr9 := (fr _ (by omega)).trans k7
    have wF : ab_I G h (b + 47) 1600 ft := (fr _ (by omega)).trans k8
    have wG := (fr (b + 32) (by omega)).trans kD
    have wH := (fr q (by omega)).trans kE
    obtain ⟨x9, us9, sz9, ov9, ht9, ho9⟩ := H.ov
    have hi : i < S.length := by omega
    refine v_iload_n dX1_judgeCell_22 rfl 0 rfl ?_
    refine v_aload_n dX1_judgeCell_23 rfl 2 rfl ?_
    refine v_getf 1 (ci := 0) (C := RX1) (T := TX1) (N := 6) rfl iwX1_judgeCell_X1 (Nat.le_of_ble_eq_true rfl) (by decide +kernel) dX1_judgeCell_24 (by first | with_reducible assumption) rfl ?_
    refine v_getf 2 (ci := 6) (C := RX8) (T := TX8) (N := 14) rfl iwX1_judgeCell_X8 (Nat.le_of_ble_eq_true rfl) (by decide +kernel) dX1_judgeCell_27 (by first | with_reducible assumption) rfl ?_
    refine v_icmp_ge (tgt := 120) dX1_judgeCell_30 (by decide) (fun c_30 => ?_) (fun c_30 => ?_)
    · exact absurd c_30 (nI_ge hi (by omega))
    · refine v_aload_n dX1_judgeCell_33 rfl 2 rfl ?_
      refine v_getf 5 (ci := 0) (C := RX1) (T := TX1) (N := 6) rfl iwX1_judgeCell_X1 (Nat.le_of_ble_eq_true rfl) (by decide +kernel) dX1_judgeCell_34 (by first | with_reducible assumption) rfl ?_
      refine v_getf 5 (ci := 8) (C := RX10) (T := TX10) (N := 7) rfl iwX1_judgeCell_X10 (Nat.le_of_ble_eq_true rfl) (by decide +kernel) dX1_judgeCell_37 (by first | with_reducible assumption) rfl ?_
      refine v_if_ne (tgt := 120) dX1_judgeCell_40 (by decide) (fun c_40 => ?_) (fun c_40 => ?_)
      · exact v_ret rfl dX1_judgeCell_120 (Nat.le_of_ble_eq_true rfl) (Nat.le_of_ble_eq_true rfl) (by
                  rcases ho9 with ⟨e9, _⟩ | ⟨_, _, e9⟩
                  · exact absurd e9 c_40
                  · obtain ⟨R9, r9⟩ := rg_cut (fun i => jOn kd x3 x4 x6 hmI ar mp sz X Y T S i) (show i ≤ S.length by omega)
                    refine hk h fr ?_
                    unfold jOs at e9 ⊢
                    rw [r9, ← List.append_assoc]
                    exact e9 R9)
      · refine v_aload_n dX1_judgeCell_43 rfl 2 rfl ?_
        refine v_getf 4 (ci := 0) (C := RX1) (T := TX1) (N := 6) rfl iwX1_judgeCell_X1 (Nat.le_of_ble_eq_true rfl) (by decide +kernel) dX1_judgeCell_44 (by first | with_reducible assumption) rfl ?_
        refine v_getf 1 (ci := 5) (C := RX7) (T := TX7) (N := 8) rfl iwX1_judgeCell_X7 (Nat.le_of_ble_eq_true rfl) (by decide +kernel) dX1_judgeCell_47 (by first | with_reducible assumption) rfl ?_
        refine v_kint (q := ("RuleDeck$Kind", "layers", "I", [1, 1, 1, 1, 1, 1, 1, 2, 2, 2, 2])) kF (by decide) (k_lay kd kF) (by decide +kernel) dX1_judgeCell_50 ?_
        rw [if_pos (show kd < 7 by omega)]
        refine v_iconst (v := 1) dX1_judgeCell_53 (by decide) ?_
        refine v_icmp_ne (tgt := 65) dX1_judgeCell_54 (by decide) (fun c_54 => ?_) (fun c_54 => ?_)
        · exact absurd rfl c_54
        · refine v_aload_n dX1_judgeCell_57 rfl 2 rfl ?_
          refine v_iload_n dX1_judgeCell_58 rfl 0 rfl ?_
          refine v_callVq (M' := mX1_judgeOne) (n := 1) (As := [_]) (ci := 0) (r := (RX1, TX1, 6)) gX1_judgeCell_X1_judgeOne rfl (by decide +kernel) ⟨(Nat.le_of_ble_eq_true rfl), (Nat.le_of_ble_eq_true rfl)⟩ rfl rfl dX1_judgeCell_59 rfl ⟨(Nat.le_of_ble_eq_true rfl), (Nat.le_of_ble_eq_true rfl)⟩ (Nat.le_of_ble_eq_true rfl) (by first | with_reducible assumption) rfl (c_jOne G hki hb _ b k nc np pl R hm pa sz ly vo ar X Y fc oc mp w3 T S q t n0 kd l1 l2 x3 x4 x5 x6 K hw hk5 hmI hbm i hi (har i hi) h fr _ H) (fun v h1 y1 hq9 => ?_)
          obtain ⟨rfl, rfl, H1, fr1⟩ := hq9
          refine v_goto (tgt := 114) dX1_judgeCell_62 (by decide) ?_
          refine v_iinc (j := 0) (L' := [(2, _), (1, _), (0, _)]) (v := nI (i + 1)) dX1_judgeCell_114 rfl (nI_1 _) (Nat.le_of_ble_eq_true rfl) rfl ?_
          refine v_goto (tgt := 22) dX1_judgeCell_117 (by decide) ?_
          refine v_sub (L' := [(2, _), (1, _), (0, _)]) [0, 1, 2] rfl ?_
          refine ih (i + 1) h1 (by omega) fr1 ?_
          unfold jOs at H1 ⊢
          rw [rg_s, ← List.append_assoc]
          exact H1

