theorem goodIn_cn {big l : List Cond} {c : Cond} (ha : GoodIn big [c]) (hb : GoodIn big l) : GoodIn big (c :: l) := fun w h => (List.mem_cons.mp h).elim (fun e => ha w (List.mem_cons.mpr (Or.inl e))) (hb w)
theorem iwX1_collect_X1 : ∀ w ∈ wsX10, w ∈ wsX1_collect := by decide +kernel
theorem iwX1_collect_X10 : ∀ w ∈ wsX100, w ∈ wsX1_collect := by decide +kernel
theorem iwX1_collect_X3 : ∀ w ∈ wsX30, w ∈ wsX1_collect := by decide +kernel
theorem iwX1_collect_X4 : ∀ w ∈ wsX40, w ∈ wsX1_collect := by decide +kernel
theorem iwX1_collect_X5 : ∀ w ∈ wsX50, w ∈ wsX1_collect := by decide +kernel
theorem iwX1_collect_X7 : ∀ w ∈ wsX70, w ∈ wsX1_collect := by decide +kernel
theorem iwX1_collect_X8 : ∀ w ∈ wsX80, w ∈ wsX1_collect := by decide +kernel
set_option maxRecDepth 20000 in
theorem ggX1_collect_X3_tally : GoodIn wsX1_collect wsX3_tally := goodIn_r _ [13, 14, 15, 16, 17, 18, 19, 20, 21, 22, 12, 23, 24, 25, 26, 27, 28, 29, 30, 31, 32, 33, 34, 35, 324, 325, 326, 327, 328, 329, 330, 331, 332, 333, 341, 342, 343, 344, 345, 346, 347, 348, 349, 350] (by decide +kernel) (by decide +kernel)
set_option maxRecDepth 20000 in
theorem gX1_collect_X3_tally : GoodIn wsX1_collect (wsV RX1 35 RX3 yX3_tally wsX3_tally) := goodIn_app (goodIn_of _ (by decide +kernel)) ggX1_collect_X3_tally
set_option maxRecDepth 20000 in
theorem ggX1_collect_X10_clear : GoodIn wsX1_collect wsX10_clear := goodIn_r _ [40, 41, 42, 43, 334, 335, 336, 337, 338, 339, 340] (by decide +kernel) (by decide +kernel)
set_option maxRecDepth 20000 in
theorem gX1_collect_X10_clear : GoodIn wsX1_collect (wsV RX1 49 RX10 yX10_clear wsX10_clear) := goodIn_app (goodIn_of _ (by decide +kernel)) ggX1_collect_X10_clear
set_option maxRecDepth 20000 in
set_option maxRecDepth 20000 in
theorem ggX1_collect_X1_judgeWhole_p0 : GoodIn wsX1_collect [.code yX1_judgeWhole cX1_judgeWhole 12 none] := goodIn_r _ [48] (by decide +kernel) (by decide +kernel)
set_option maxRecDepth 20000 in
theorem ggX1_collect_X1_judgeWhole_p1 : GoodIn wsX1_collect wsX1_judgeWhole_r1 := goodIn_r _ [49, 2, 3, 50, 51, 52, 53, 54, 55, 56, 4, 57, 58, 59, 60, 61, 62, 63, 64, 65, 66, 67, 68, 69] (by decide +kernel) (by decide +kernel)
set_option maxRecDepth 20000 in
theorem ggX1_collect_X1_judgeWhole_p2 : GoodIn wsX1_collect wsX1_judgeWhole_r2 := goodIn_r _ [70, 71, 72, 73, 74, 75, 76, 77, 78, 79, 80, 81, 82, 83, 84, 85, 86, 87, 88, 89, 90, 91, 92, 93] (by decide +kernel) (by decide +kernel)
set_option maxRecDepth 20000 in
theorem ggX1_collect_X1_judgeWhole_p3 : GoodIn wsX1_collect wsX1_judgeWhole_r3 := goodIn_r _ [94, 95, 96, 97, 98, 99, 100, 101, 102, 103, 104, 105, 106, 107, 108, 109, 110, 111, 112, 113, 114, 115, 116, 117] (by decide +kernel) (by decide +kernel)
set_option maxRecDepth 20000 in
theorem ggX1_collect_X1_judgeWhole_p4 : GoodIn wsX1_collect wsX1_judgeWhole_r4 := goodIn_r _ [118, 119, 120, 121, 122, 123, 124, 125, 126, 127, 128, 129, 130, 131, 132, 33, 34, 35, 133, 134, 135, 136, 137, 138] (by decide +kernel) (by decide +kernel)
set_option maxRecDepth 20000 in
theorem ggX1_collect_X1_judgeWhole_p5 : GoodIn wsX1_collect wsX1_judgeWhole_r5 := goodIn_r _ [139, 140, 141, 142, 143, 144, 145, 146, 147, 148, 149, 150, 151, 152, 153, 154, 155, 156, 157, 158, 159, 160, 161, 162] (by decide +kernel) (by decide +kernel)
set_option maxRecDepth 20000 in
theorem ggX1_collect_X1_judgeWhole_p6 : GoodIn wsX1_collect wsX1_judgeWhole_r6 := goodIn_r _ [163, 164, 165, 166, 167, 168, 169, 170, 171, 172, 173, 174, 175, 176, 177, 17, 18, 19, 178, 179, 180, 39, 181, 41] (by decide +kernel) (by decide +kernel)
set_option maxRecDepth 20000 in
theorem ggX1_collect_X1_judgeWhole_p7 : GoodIn wsX1_collect wsX1_judgeWhole_r7 := goodIn_r _ [43, 182, 183, 184, 185, 186, 187, 188, 42] (by decide +kernel) (by decide +kernel)
theorem ggX1_collect_X1_judgeWhole_p8 : GoodIn wsX1_collect wsX10 := goodIn_sub iwX1_collect_X1 (by decide +kernel)
theorem ggX1_collect_X1_judgeWhole_p9 : GoodIn wsX1_collect wsX100 := goodIn_sub iwX1_collect_X10 (by decide +kernel)
theorem ggX1_collect_X1_judgeWhole_p10 : GoodIn wsX1_collect wsX80 := goodIn_sub iwX1_collect_X8 (by decide +kernel)
theorem ggX1_collect_X1_judgeWhole_p11 : GoodIn wsX1_collect wsX50 := goodIn_sub iwX1_collect_X5 (by decide +kernel)
theorem ggX1_collect_X1_judgeWhole_p12 : GoodIn wsX1_collect wsX70 := goodIn_sub iwX1_collect_X7 (by decide +kernel)
theorem ggX1_collect_X1_judgeWhole_p13 : GoodIn wsX1_collect wsX30 := goodIn_sub iwX1_collect_X3 (by decide +kernel)
theorem ggX1_collect_X1_judgeWhole_p14 : GoodIn wsX1_collect wsX40 := goodIn_sub iwX1_collect_X4 (by decide +kernel)
theorem ggX1_collect_X1_judgeWhole : GoodIn wsX1_collect wsX1_judgeWhole := goodIn_cn ggX1_collect_X1_judgeWhole_p0 (goodIn_app (goodIn_app (goodIn_app (goodIn_app (goodIn_app (goodIn_app (goodIn_app (goodIn_app ggX1_collect_X1_judgeWhole_p1 (goodIn_app ggX1_collect_X1_judgeWhole_p2 (goodIn_app ggX1_collect_X1_judgeWhole_p3 (goodIn_app ggX1_collect_X1_judgeWhole_p4 (goodIn_app ggX1_collect_X1_judgeWhole_p5 (goodIn_app ggX1_collect_X1_judgeWhole_p6 ggX1_collect_X1_judgeWhole_p7)))))) ggX1_collect_X1_judgeWhole_p8) ggX1_collect_X1_judgeWhole_p9) ggX1_collect_X1_judgeWhole_p10) ggX1_collect_X1_judgeWhole_p11) ggX1_collect_X1_judgeWhole_p12) ggX1_collect_X1_judgeWhole_p13) ggX1_collect_X1_judgeWhole_p14)
set_option maxRecDepth 20000 in
theorem gX1_collect_X1_judgeWhole : GoodIn wsX1_collect (wsV RX1 66 RX1 yX1_judgeWhole wsX1_judgeWhole) := goodIn_app (goodIn_of _ (by decide +kernel)) ggX1_collect_X1_judgeWhole
set_option maxRecDepth 20000 in
theorem ggX1_collect_X3_cellsIn : GoodIn wsX1_collect wsX3_cellsIn := goodIn_r _ [192, 15, 29, 30, 31, 324, 325, 326, 327, 328, 329, 330, 331, 332, 333] (by decide +kernel) (by decide +kernel)
set_option maxRecDepth 20000 in
theorem gX1_collect_X3_cellsIn : GoodIn wsX1_collect (wsV RX1 70 RX3 yX3_cellsIn wsX3_cellsIn) := goodIn_app (goodIn_of _ (by decide +kernel)) ggX1_collect_X3_cellsIn
set_option maxRecDepth 20000 in
set_option maxRecDepth 20000 in
theorem ggX1_collect_X1_judgeCell_p0 : GoodIn wsX1_collect [.code yX1_judgeCell cX1_judgeCell 4 none] := goodIn_r _ [196] (by decide +kernel) (by decide +kernel)
set_option maxRecDepth 20000 in
theorem ggX1_collect_X1_judgeCell_p1 : GoodIn wsX1_collect wsX1_judgeCell_r1 := goodIn_r _ [49, 2, 3, 50, 51, 8, 4, 197, 59, 60, 61, 62, 63, 64, 65, 66, 67, 68, 69, 70, 71, 72, 73, 74] (by decide +kernel) (by decide +kernel)
set_option maxRecDepth 20000 in
theorem ggX1_collect_X1_judgeCell_p2 : GoodIn wsX1_collect wsX1_judgeCell_r2 := goodIn_r _ [75, 76, 77, 78, 79, 80, 81, 82, 83, 84, 85, 86, 87, 88, 89, 90, 91, 92, 93, 94, 95, 96, 97, 98] (by decide +kernel) (by decide +kernel)
set_option maxRecDepth 20000 in
theorem ggX1_collect_X1_judgeCell_p3 : GoodIn wsX1_collect wsX1_judgeCell_r3 := goodIn_r _ [99, 100, 101, 102, 103, 104, 105, 106, 107, 108, 109, 110, 111, 112, 113, 114, 115, 116, 117, 118, 119, 120, 121, 122] (by decide +kernel) (by decide +kernel)
set_option maxRecDepth 20000 in
theorem ggX1_collect_X1_judgeCell_p4 : GoodIn wsX1_collect wsX1_judgeCell_r4 := goodIn_r _ [123, 124, 125, 126, 127, 128, 129, 130, 131, 132, 33, 34, 35, 133, 134, 135, 136, 137, 138, 139, 140, 141, 142, 143] (by decide +kernel) (by decide +kernel)
set_option maxRecDepth 20000 in
theorem ggX1_collect_X1_judgeCell_p5 : GoodIn wsX1_collect wsX1_judgeCell_r5 := goodIn_r _ [144, 145, 146, 147, 148, 149, 150, 151, 152, 153, 154, 155, 156, 157, 158, 159, 160, 161, 162, 163, 164, 165, 166, 167] (by decide +kernel) (by decide +kernel)
set_option maxRecDepth 20000 in
theorem ggX1_collect_X1_judgeCell_p6 : GoodIn wsX1_collect wsX1_judgeCell_r6 := goodIn_r _ [168, 169, 170, 198, 199, 200, 47, 201, 202, 203, 54, 204, 171, 205, 206, 207, 208, 209, 210, 211, 212, 213, 214, 215] (by decide +kernel) (by decide +kernel)
set_option maxRecDepth 20000 in
theorem ggX1_collect_X1_judgeCell_p7 : GoodIn wsX1_collect wsX1_judgeCell_r7 := goodIn_r _ [216, 217, 58, 218, 219, 220, 221, 222, 223, 224, 225, 226, 227, 228, 229, 230, 231, 232, 233, 234, 235, 236, 237, 238] (by decide +kernel) (by decide +kernel)
set_option maxRecDepth 20000 in
theorem ggX1_collect_X1_judgeCell_p8 : GoodIn wsX1_collect wsX1_judgeCell_r8 := goodIn_r _ [239, 240, 241, 242, 178, 179, 180, 39, 181, 41, 43, 182, 183, 184, 185, 186, 187, 188, 42, 243, 244, 245, 246, 247] (by decide +kernel) (by decide +kernel)
set_option maxRecDepth 20000 in
theorem ggX1_collect_X1_judgeCell_p9 : GoodIn wsX1_collect wsX1_judgeCell_r9 := goodIn_r _ [248, 249, 250, 251, 252, 253, 254, 255, 256, 257, 258, 259, 260, 261, 262, 263, 264, 265, 266, 267, 268, 269, 270, 271] (by decide +kernel) (by decide +kernel)
set_option maxRecDepth 20000 in
theorem ggX1_collect_X1_judgeCell_p10 : GoodIn wsX1_collect wsX1_judgeCell_r10 := goodIn_r _ [272, 52, 273, 274, 275, 276, 277, 278, 279, 280, 281, 282, 283, 284, 285, 286, 287, 288, 289, 290, 291, 292, 293, 294] (by decide +kernel) (by decide +kernel)
set_option maxRecDepth 20000 in
theorem ggX1_collect_X1_judgeCell_p11 : GoodIn wsX1_collect wsX1_judgeCell_r11 := goodIn_r _ [295, 296, 297, 298, 299, 300, 301, 302, 303, 304, 53, 305, 306, 307, 308, 309] (by decide +kernel) (by decide +kernel)
theorem ggX1_collect_X1_judgeCell_p12 : GoodIn wsX1_collect wsX10 := goodIn_sub iwX1_collect_X1 (by decide +kernel)
theorem ggX1_collect_X1_judgeCell_p13 : GoodIn wsX1_collect wsX100 := goodIn_sub iwX1_collect_X10 (by decide +kernel)
theorem ggX1_collect_X1_judgeCell_p14 : GoodIn wsX1_collect wsX80 := goodIn_sub iwX1_collect_X8 (by decide +kernel)
theorem ggX1_collect_X1_judgeCell_p15 : GoodIn wsX1_collect wsX70 := goodIn_sub iwX1_collect_X7 (by decide +kernel)
theorem ggX1_collect_X1_judgeCell_p16 : GoodIn wsX1_collect wsX30 := goodIn_sub iwX1_collect_X3 (by decide +kernel)
theorem ggX1_collect_X1_judgeCell_p17 : GoodIn wsX1_collect wsX50 := goodIn_sub iwX1_collect_X5 (by decide +kernel)
theorem ggX1_collect_X1_judgeCell_p18 : GoodIn wsX1_collect wsX40 := goodIn_sub iwX1_collect_X4 (by decide +kernel)
theorem ggX1_collect_X1_judgeCell : GoodIn wsX1_collect wsX1_judgeCell := goodIn_cn ggX1_collect_X1_judgeCell_p0 (goodIn_app (goodIn_app (goodIn_app (goodIn_app (goodIn_app (goodIn_app (goodIn_app (goodIn_app ggX1_collect_X1_judgeCell_p1 (goodIn_app ggX1_collect_X1_judgeCell_p2 (goodIn_app ggX1_collect_X1_judgeCell_p3 (goodIn_app ggX1_collect_X1_judgeCell_p4 (goodIn_app ggX1_collect_X1_judgeCell_p5 (goodIn_app ggX1_collect_X1_judgeCell_p6 (goodIn_app ggX1_collect_X1_judgeCell_p7 (goodIn_app ggX1_collect_X1_judgeCell_p8 (goodIn_app ggX1_collect_X1_judgeCell_p9 (goodIn_app ggX1_collect_X1_judgeCell_p10 ggX1_collect_X1_judgeCell_p11)))))))))) ggX1_collect_X1_judgeCell_p12) ggX1_collect_X1_judgeCell_p13) ggX1_collect_X1_judgeCell_p14) ggX1_collect_X1_judgeCell_p15) ggX1_collect_X1_judgeCell_p16) ggX1_collect_X1_judgeCell_p17) ggX1_collect_X1_judgeCell_p18)
set_option maxRecDepth 20000 in
theorem gX1_collect_X1_judgeCell : GoodIn wsX1_collect (wsV RX1 80 RX1 yX1_judgeCell wsX1_judgeCell) := goodIn_app (goodIn_of _ (by decide +kernel)) ggX1_collect_X1_judgeCell
theorem dX1_collect_0 : decode cX1_collect 0 = .ok (.aload_n 0, 1) := by decide +kernel
theorem dX1_collect_1 : decode cX1_collect 1 = .ok (.getfield 21, 3) := by decide +kernel
theorem dX1_collect_4 : decode cX1_collect 4 = .ok (.iload_n 2, 1) := by decide +kernel
theorem dX1_collect_5 : decode cX1_collect 5 = .ok (.invokevirtual 35, 3) := by decide +kernel
theorem dX1_collect_8 : decode cX1_collect 8 = .ok (.bipush 100, 2) := by decide +kernel
theorem dX1_collect_10 : decode cX1_collect 10 = .ok (.if_icmp .le 5, 3) := by decide +kernel
theorem dX1_collect_13 : decode cX1_collect 13 = .ok (.iconst 0, 1) := by decide +kernel
theorem dX1_collect_14 : decode cX1_collect 14 = .ok (.ireturn, 1) := by decide +kernel
theorem dX1_collect_15 : decode cX1_collect 15 = .ok (.aload_n 0, 1) := by decide +kernel
theorem dX1_collect_16 : decode cX1_collect 16 = .ok (.aload_n 1, 1) := by decide +kernel
theorem dX1_collect_17 : decode cX1_collect 17 = .ok (.putfield 41, 3) := by decide +kernel
theorem dX1_collect_20 : decode cX1_collect 20 = .ok (.aload_n 0, 1) := by decide +kernel
theorem dX1_collect_21 : decode cX1_collect 21 = .ok (.aload_n 3, 1) := by decide +kernel
theorem dX1_collect_22 : decode cX1_collect 22 = .ok (.putfield 45, 3) := by decide +kernel
theorem dX1_collect_25 : decode cX1_collect 25 = .ok (.aload_n 0, 1) := by decide +kernel
theorem dX1_collect_26 : decode cX1_collect 26 = .ok (.getfield 45, 3) := by decide +kernel
theorem dX1_collect_29 : decode cX1_collect 29 = .ok (.invokevirtual 49, 3) := by decide +kernel
theorem dX1_collect_32 : decode cX1_collect 32 = .ok (.aload_n 0, 1) := by decide +kernel
theorem dX1_collect_33 : decode cX1_collect 33 = .ok (.getfield 41, 3) := by decide +kernel
theorem dX1_collect_36 : decode cX1_collect 36 = .ok (.getfield 54, 3) := by decide +kernel
theorem dX1_collect_39 : decode cX1_collect 39 = .ok (.getfield 60, 3) := by decide +kernel
theorem dX1_collect_42 : decode cX1_collect 42 = .ok (.ifCond .eq 10, 3) := by decide +kernel
theorem dX1_collect_45 : decode cX1_collect 45 = .ok (.aload_n 0, 1) := by decide +kernel
theorem dX1_collect_46 : decode cX1_collect 46 = .ok (.iload_n 2, 1) := by decide +kernel
theorem dX1_collect_47 : decode cX1_collect 47 = .ok (.invokevirtual 66, 3) := by decide +kernel
theorem dX1_collect_50 : decode cX1_collect 50 = .ok (.iconst 1, 1) := by decide +kernel
theorem dX1_collect_51 : decode cX1_collect 51 = .ok (.ireturn, 1) := by decide +kernel
theorem dX1_collect_52 : decode cX1_collect 52 = .ok (.aload_n 0, 1) := by decide +kernel
theorem dX1_collect_53 : decode cX1_collect 53 = .ok (.getfield 21, 3) := by decide +kernel
theorem dX1_collect_56 : decode cX1_collect 56 = .ok (.iload_n 2, 1) := by decide +kernel
theorem dX1_collect_57 : decode cX1_collect 57 = .ok (.invokevirtual 70, 3) := by decide +kernel
theorem dX1_collect_60 : decode cX1_collect 60 = .ok (.istore 4, 2) := by decide +kernel
theorem dX1_collect_62 : decode cX1_collect 62 = .ok (.iconst 0, 1) := by decide +kernel
theorem dX1_collect_63 : decode cX1_collect 63 = .ok (.istore 5, 2) := by decide +kernel
theorem dX1_collect_65 : decode cX1_collect 65 = .ok (.iload 5, 2) := by decide +kernel
theorem dX1_collect_67 : decode cX1_collect 67 = .ok (.aload_n 0, 1) := by decide +kernel
theorem dX1_collect_68 : decode cX1_collect 68 = .ok (.getfield 21, 3) := by decide +kernel
theorem dX1_collect_71 : decode cX1_collect 71 = .ok (.getfield 73, 3) := by decide +kernel
theorem dX1_collect_74 : decode cX1_collect 74 = .ok (.if_icmp .ge 39, 3) := by decide +kernel
theorem dX1_collect_77 : decode cX1_collect 77 = .ok (.iload 4, 2) := by decide +kernel
theorem dX1_collect_79 : decode cX1_collect 79 = .ok (.iload 5, 2) := by decide +kernel
theorem dX1_collect_81 : decode cX1_collect 81 = .ok (.ishr, 1) := by decide +kernel
theorem dX1_collect_82 : decode cX1_collect 82 = .ok (.iconst 1, 1) := by decide +kernel
theorem dX1_collect_83 : decode cX1_collect 83 = .ok (.iand, 1) := by decide +kernel
theorem dX1_collect_84 : decode cX1_collect 84 = .ok (.iconst 1, 1) := by decide +kernel
theorem dX1_collect_85 : decode cX1_collect 85 = .ok (.if_icmp .ne 22, 3) := by decide +kernel
theorem dX1_collect_88 : decode cX1_collect 88 = .ok (.aload_n 0, 1) := by decide +kernel
theorem dX1_collect_89 : decode cX1_collect 89 = .ok (.getfield 21, 3) := by decide +kernel
theorem dX1_collect_92 : decode cX1_collect 92 = .ok (.getfield 77, 3) := by decide +kernel
theorem dX1_collect_95 : decode cX1_collect 95 = .ok (.iload 5, 2) := by decide +kernel
theorem dX1_collect_97 : decode cX1_collect 97 = .ok (.iaload, 1) := by decide +kernel
theorem dX1_collect_98 : decode cX1_collect 98 = .ok (.ifCond .le 9, 3) := by decide +kernel
theorem dX1_collect_101 : decode cX1_collect 101 = .ok (.aload_n 0, 1) := by decide +kernel
theorem dX1_collect_102 : decode cX1_collect 102 = .ok (.iload 5, 2) := by decide +kernel
theorem dX1_collect_104 : decode cX1_collect 104 = .ok (.invokevirtual 80, 3) := by decide +kernel
theorem dX1_collect_107 : decode cX1_collect 107 = .ok (.iinc 5 1, 3) := by decide +kernel
theorem dX1_collect_110 : decode cX1_collect 110 = .ok (.goto (-45), 3) := by decide +kernel
theorem dX1_collect_113 : decode cX1_collect 113 = .ok (.aload_n 0, 1) := by decide +kernel
theorem dX1_collect_114 : decode cX1_collect 114 = .ok (.getfield 45, 3) := by decide +kernel
theorem dX1_collect_117 : decode cX1_collect 117 = .ok (.getfield 83, 3) := by decide +kernel
theorem dX1_collect_120 : decode cX1_collect 120 = .ok (.ifCond .ne 7, 3) := by decide +kernel
theorem dX1_collect_123 : decode cX1_collect 123 = .ok (.iconst 1, 1) := by decide +kernel
theorem dX1_collect_124 : decode cX1_collect 124 = .ok (.goto 4, 3) := by decide +kernel
theorem dX1_collect_127 : decode cX1_collect 127 = .ok (.iconst 0, 1) := by decide +kernel
theorem dX1_collect_128 : decode cX1_collect 128 = .ok (.ireturn, 1) := by decide +kernel

abbrev mX1_collect : sv_M := (cX1_collect, 6, yX1_collect, wsX1_collect, (some .boolean), { frames := 29, cells := 0, slots := 0, locals := 800 }, [])
/-- the layout, whatever was tallied last -/
def sy_ (G : sv_G) (h0 : sv_h) (b : Nat) (k : Int32) (nc np pl : Nat) (R : Nat → Bool) (hm p3 p4 pa ma sz : Nat → Nat) (ly vo ar : Nat → Int32) (mp : Nat → mvT) : Prop :=
  h0 (b + 1) = some (.inr (1, [.int k, .int (nI nc), .ref (b + 2), .int (nI np), .ref (b + 3), .ref (b + 4), .ref (b + 5), .int (nI pl), .ref (b + 6), .ref (b + 7)])) ∧ (∃ f, ab_Q G h0 (b + 2) 4 64 f ∧ ∀ p, p < np → f p = some (pa p)) ∧ (∃ f, ab_I G h0 (b + 3) 32 f ∧ ∀ i, i < pl → f i = nI (p3 i)) ∧ (∃ f, ab_I G h0 (b + 4) 32 f ∧ ∀ i, i < pl → f i = nI (p4 i)) ∧ (∃ f, ab_Q G h0 (b + 5) 3 32 f ∧ ∀ i, i < pl → f i = some (ma i)) ∧ (∃ f, ab_I G h0 (b + 6) 16 f) ∧ (∃ f, ab_I G h0 (b + 7) 16 f) ∧ (∀ p, p < np → h0 (pa p) = some (.inr (3, [.int (nI (hm p)), .int (ly p), .ref (pa p + 1), .ref (pa p + 2), .int (nI (sz p)), .int (vo p), .int (if R p = true then 1 else 0), .int (ar p), .ref (pa p + 3), .ref (pa p + 4)])) ∧ hm p < nc ∧ b + 262 ≤ pa p ∧ sz p ≤ 16) ∧ (∀ i, i < pl → h0 (ma i) = mvC (mp i) ∧ (mp i).2.1 < 4 ∧ p3 i < nc ∧ p4 i < nc ∧ b + 262 ≤ ma i) ∧ nc ≤ 16 ∧ np ≤ 64 ∧ pl ≤ 32
theorem sy_.sx {G : sv_G} {b : Nat} {k : Int32} {nc np pl : Nat} {R : Nat → Bool} {hm p3 p4 pa ma sz : Nat → Nat} {ly vo ar : Nat → Int32} {mp : Nat → mvT} {h h1 : sv_h} (H : sy_ G h b k nc np pl R hm p3 p4 pa ma sz ly vo ar mp) {N : Nat → Nat} {f6 : Nat → Int32} (e6 : ab_I G h1 (b + 6) 16 f6) (e6a : ∀ c, c < nc → f6 c = nI (min 101 (N c))) (fr : ∀ a, a ≠ b + 6 → a ≠ b + 7 → h1 a = h a) : sx_ G h1 b k nc np pl R hm p3 p4 pa ma sz ly vo ar mp N := by
  obtain ⟨y1, ⟨f2, y2, y2a⟩, ⟨f3, y3, y3a⟩, ⟨f4, y4, y4a⟩, ⟨f5, y5, y5a⟩, y6, y7, y8, y9, yA, yB, yC⟩ := H
  exact ⟨(fr _ (by omega) (by omega)).trans y1, ⟨f2, (fr _ (by omega) (by omega)).trans y2, y2a⟩, ⟨f3, (fr _ (by omega) (by omega)).trans y3, y3a⟩, ⟨f4, (fr _ (by omega) (by omega)).trans y4, y4a⟩, ⟨f5, (fr _ (by omega) (by omega)).trans y5, y5a⟩, ⟨f6, e6, e6a⟩, fun p hp => ⟨(fr _ (by have := (y8 p hp).2.2.1; omega) (by have := (y8 p hp).2.2.1; omega)).trans (y8 p hp).1, (y8 p hp).2⟩, fun i hi => ⟨(fr _ (by have := (y9 i hi).2.2.2.2; omega) (by have := (y9 i hi).2.2.2.2; omega)).trans (y9 i hi).1, (y9 i hi).2⟩, yA, yB, yC⟩
theorem sx_.kept {G : sv_G} {b : Nat} {k : Int32} {nc np pl : Nat} {R : Nat → Bool} {hm p3 p4 pa ma sz : Nat → Nat} {ly vo ar : Nat → Int32} {mp : Nat → mvT} {N : Nat → Nat} {h h1 : sv_h} (H : sx_ G h b k nc np pl R hm p3 p4 pa ma sz ly vo ar mp N) (fr : ∀ a, (a < b + 7 ∨ b + 262 ≤ a) → h1 a = h a) : sx_ G h1 b k nc np pl R hm p3 p4 pa ma sz ly vo ar mp N := by
  obtain ⟨y1, ⟨f2, y2, y2a⟩, ⟨f3, y3, y3a⟩, ⟨f4, y4, y4a⟩, ⟨f5, y5, y5a⟩, ⟨f6, y6, y6a⟩, y8, y9, yA⟩ := H
  exact ⟨(fr _ (by omega)).trans y1, ⟨f2, (fr _ (by omega)).trans y2, y2a⟩, ⟨f3, (fr _ (by omega)).trans y3, y3a⟩, ⟨f4, (fr _ (by omega)).trans y4, y4a⟩, ⟨f5, (fr _ (by omega)).trans y5, y5a⟩, ⟨f6, (fr _ (by omega)).trans y6, y6a⟩, fun p hp => ⟨(fr _ (by have := (y8 p hp).2.2.1; omega)).trans (y8 p hp).1, (y8 p hp).2⟩, fun i hi => ⟨(fr _ (by have := (y9 i hi).2.2.2.2; omega)).trans (y9 i hi).1, (y9 i hi).2⟩, yA⟩
theorem px_.kept {G : sv_G} {b np : Nat} {R : Nat → Bool} {pa sz : Nat → Nat} {X Y : Nat → Nat → Int} {fc : Nat → Nat → Nat} {oc : Nat → Nat → Option Nat} {h h1 : sv_h} (H : px_ G h np R pa sz X Y fc oc) (hpa : ∀ p, p < np → b + 262 ≤ pa p) (fr : ∀ a, b + 262 ≤ a → h1 a = h a) : px_ G h1 np R pa sz X Y fc oc := by
  intro p hp hr
  obtain ⟨fx, fy, ff, fo, v6, v7, v8, v9, vA⟩ := H p hp hr
  have := hpa p hp
  exact ⟨fx, fy, ff, fo, (fr _ (by omega)).trans v6, (fr _ (by omega)).trans v7, (fr _ (by omega)).trans v8, (fr _ (by omega)).trans v9, vA⟩
/-- what is met in cell c -/
def jCl (kd : Nat) (l1 l2 x3 x4 x5 x6 : Int32) (np pl : Nat) (R : Nat → Bool) (hm p3 p4 : Nat → Nat) (ly vo ar : Nat → Int32) (mp : Nat → mvT) (sz : Nat → Nat) (X Y : Nat → Nat → Int) (fc : Nat → Nat → Nat) (oc : Nat → Nat → Option Nat) (c : Nat) : List (List Int64) :=
  if kd < 5 then (jOs kd x3 x4 x6 (c : Int) ar mp sz X Y (sideL mp sz X Y fc) (dO np (dQ R hm ly kd l1 l2) c []) (dO np (dQ R hm ly kd l1 l2) c []).length)
  else if kd = 8 then (jPs kd l1 l2 x3 x4 x5 x6 (c : Int) ly vo mp sz X Y (cornL mp sz X Y oc) (dS np pl (dQ R hm ly kd l1 l2) p3 p4 16 c []) (dS np pl (dQ R hm ly kd l1 l2) p3 p4 16 c []).length)
  else (jPs kd l1 l2 x3 x4 x5 x6 (c : Int) ly vo mp sz X Y (sideL mp sz X Y fc) (dS np pl (dQ R hm ly kd l1 l2) p3 p4 16 c []) (dS np pl (dQ R hm ly kd l1 l2) p3 p4 16 c []).length)
/-- what is told of one cell alone -/
def jWc (kd : Nat) (l1 l2 x3 x4 x5 x6 : Int32) (np pl : Nat) (R : Nat → Bool) (hm p3 p4 : Nat → Nat) (ly vo ar : Nat → Int32) (mp : Nat → mvT) (sz : Nat → Nat) (X Y : Nat → Nat → Int) (fc : Nat → Nat → Nat) (oc : Nat → Nat → Option Nat) (c : Nat) : List (List Int64) := jWh kd x3 (c : Int) (arS ly ar l1 (dS np pl (dQ R hm ly kd l1 l2) p3 p4 16 c []) (dS np pl (dQ R hm ly kd l1 l2) p3 p4 16 c []).length) (cnS ly l1 (dS np pl (dQ R hm ly kd l1 l2) p3 p4 16 c []) (dS np pl (dQ R hm ly kd l1 l2) p3 p4 16 c []).length) (spn (fun i9 j9 => bxO mp sz X Y ((dS np pl (dQ R hm ly kd l1 l2) p3 p4 16 c []).getD i9 ([], 0)) j9) (dS np pl (dQ R hm ly kd l1 l2) p3 p4 16 c []).length)
/-- all that is met in cells that g takes -/
def jAll (kd : Nat) (l1 l2 x3 x4 x5 x6 : Int32) (np pl : Nat) (R : Nat → Bool) (hm p3 p4 : Nat → Nat) (ly vo ar : Nat → Int32) (mp : Nat → mvT) (sz : Nat → Nat) (X Y : Nat → Nat → Int) (fc : Nat → Nat → Nat) (oc : Nat → Nat → Option Nat) (g : Nat → Bool) (n : Nat) : List (List Int64) := (List.range n).flatMap (fun i => if g i = true then jCl kd l1 l2 x3 x4 x5 x6 np pl R hm p3 p4 ly vo ar mp sz X Y fc oc i else [])
theorem jAll_s (kd : Nat) (l1 l2 x3 x4 x5 x6 : Int32) (np pl : Nat) (R : Nat → Bool) (hm p3 p4 : Nat → Nat) (ly vo ar : Nat → Int32) (mp : Nat → mvT) (sz : Nat → Nat) (X Y : Nat → Nat → Int) (fc : Nat → Nat → Nat) (oc : Nat → Nat → Option Nat) (g : Nat → Bool) (n : Nat) : jAll kd l1 l2 x3 x4 x5 x6 np pl R hm p3 p4 ly vo ar mp sz X Y fc oc g (n + 1) = jAll kd l1 l2 x3 x4 x5 x6 np pl R hm p3 p4 ly vo ar mp sz X Y fc oc g n ++ (if g n = true then jCl kd l1 l2 x3 x4 x5 x6 np pl R hm p3 p4 ly vo ar mp sz X Y fc oc n else []) := rg_s _ n
theorem dS_nil {np pl : Nat} {R : Nat → Bool} {hm p3 p4 : Nat → Nat} {ly : Nat → Int32} {kd : Nat} {l1 l2 : Int32} {f c : Nat} {w : List Nat} (h : oc_n np pl R hm p3 p4 f c = 0) : dS np pl (dQ R hm ly kd l1 l2) p3 p4 f c w = [] := by
  have := dS_len (np := np) (pl := pl) (Q := dQ R hm ly kd l1 l2) (R := R) (hm := hm) (p3 := p3) (p4 := p4) (fun c p q => ⟨(dQ_iff.mp q).1, (dQ_iff.mp q).2.1⟩) f c w
  exact List.eq_nil_of_length_eq_zero (by omega)
theorem dO_dS (np pl : Nat) (Q : Nat → Nat → Bool) (p3 p4 : Nat → Nat) (f c : Nat) (w : List Nat) : (dO np Q c w).length ≤ (dS np pl Q p3 p4 (f + 1) c w).length := by
  rw [dS_s, List.length_append]; omega
theorem jCl_nil (kd : Nat) (l1 l2 x3 x4 x5 x6 : Int32) (np pl : Nat) (R : Nat → Bool) (hm p3 p4 : Nat → Nat) (ly vo ar : Nat → Int32) (mp : Nat → mvT) (sz : Nat → Nat) (X Y : Nat → Nat → Int) (fc : Nat → Nat → Nat) (oc : Nat → Nat → Option Nat) {c : Nat} (h : oc_n np pl R hm p3 p4 16 c = 0) : jCl kd l1 l2 x3 x4 x5 x6 np pl R hm p3 p4 ly vo ar mp sz X Y fc oc c = [] := by
  have e1 := dS_nil (ly := ly) (kd := kd) (l1 := l1) (l2 := l2) (w := []) h
  have e2 : dO np (dQ R hm ly kd l1 l2) c [] = [] := List.eq_nil_of_length_eq_zero (by have := dO_dS np pl (dQ R hm ly kd l1 l2) p3 p4 15 c []; rw [e1] at this; exact Nat.le_zero.mp this)
  unfold jCl
  rw [e1, e2]
  split
  · rfl
  · split <;> rfl
theorem c_jCell (G : sv_G) (hki : sv_ki G) (h0 : sv_h) (z b : Nat) (k : Int32) (nc np pl : Nat) (R : Nat → Bool) (hm p3 p4 pa ma sz : Nat → Nat) (ly vo ar : Nat → Int32) (mp : Nat → mvT) (N : Nat → Nat) (Z9 : sx_ G h0 b k nc np pl R hm p3 p4 pa ma sz ly vo ar mp N) (X Y : Nat → Nat → Int) (fc : Nat → Nat → Nat) (oc : Nat → Nat → Option Nat) (PX : px_ G h0 np R pa sz X Y fc oc) (NN9 : sn_ G b h0) (q : Nat) (hqa : q < b + 35 ∨ b + 164 ≤ q) (n0 : Int64) (kd : Nat) (hkd : kd < 11) (l1 l2 x3 x4 x5 x6 : Int32) (hru : h0 q = some (.inr (5, [.long n0, .ref (G.2.2.2.2.1 kd), .int l1, .int l2, .int x3, .int x4, .int x5, .int x6]))) (t : Nat) (hqq : q < b + 32 ∨ (b + 180 ≤ q ∧ q < b + 204)) (hta : b + 204 ≤ t ∧ t + 4 ≤ b + 220) (hchk : h0 (b + 32) = some (.inr (0, [.ref (b + 1), .ref (b + 35), .ref (b + 33), .ref (b + 34), .ref q, .ref t]))) (hm0 : Int32) (E0 : List (List Int64)) (H : tE G h0 t hm0 E0) (hC : coB np R sz X Y) (hM : ∀ i, i < pl → mvB mp i) (har : ∀ p, p < np → R p = true → bd (ar p).toInt) (hN : ∀ r c, r ≤ 16 → c < nc → oc_n np pl R hm p3 p4 r c ≤ N c) (hkd5 : kd ≠ 5 ∧ kd ≠ 6) (c : Nat) (hc : c < nc) (hc100 : oc_n np pl R hm p3 p4 16 c ≤ 100) : CT G mX1_judgeCell [.ref (b + 32), .int (nI c)] h0 z (fun v h3 z3 => v = none ∧ z3 = z ∧ tE G h3 t (iN (c : Int)) (E0 ++ jCl kd l1 l2 x3 x4 x5 x6 np pl R hm p3 p4 ly vo ar mp sz X Y fc oc c) ∧ sn_ G b h3 ∧ ∀ a, ¬ (b + 35 ≤ a ∧ a < b + 164) → ¬ (t ≤ a ∧ a < t + 4) → h3 a = h0 a) := by
  have l1' := dS_len (np := np) (pl := pl) (Q := dQ R hm ly kd l1 l2) (R := R) (hm := hm) (p3 := p3) (p4 := p4) (fun c p q => ⟨(dQ_iff.mp q).1, (dQ_iff.mp q).2.1⟩) 16 c []
  have l2' : (dO np (dQ R hm ly kd l1 l2) c []).length ≤ (dS np pl (dQ R hm ly kd l1 l2) p3 p4 16 c []).length := dO_dS np pl (dQ R hm ly kd l1 l2) p3 p4 15 c []
  unfold jCl
  by_cases e5 : kd < 5
  · rw [if_pos e5]
    exact c_jCell1 G hki h0 z b k nc np pl R hm p3 p4 pa ma sz ly vo ar mp N Z9 X Y fc oc PX NN9 q hqa n0 kd hkd l1 l2 x3 x4 x5 x6 hru t hqq hta hchk hm0 E0 H e5 har c hc (by omega) (dO_hS hC c)
  · rw [if_neg e5]
    by_cases e8 : kd = 8
    · rw [if_pos e8]
      exact c_jCell8 G hki h0 z b k nc np pl R hm p3 p4 pa ma sz ly vo ar mp N Z9 X Y fc oc PX NN9 q hqa n0 kd hkd l1 l2 x3 x4 x5 x6 hru t hqq hta hchk hm0 E0 H e8 hN c hc (by omega) (dS_hS hC hM c)
    · rw [if_neg e8]
      exact c_jCell2 G hki h0 z b k nc np pl R hm p3 p4 pa ma sz ly vo ar mp N Z9 X Y fc oc PX NN9 q hqa n0 kd hkd l1 l2 x3 x4 x5 x6 hru t hqq hta hchk hm0 E0 H e8 hN (by omega) c hc (by omega) (dS_hS hC hM c)
