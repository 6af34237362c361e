theorem iwX1_judgeOne_X1 : ∀ w ∈ wsX10, w ∈ wsX1_judgeOne := by decide +kernel
theorem iwX1_judgeOne_X5 : ∀ w ∈ wsX50, w ∈ wsX1_judgeOne := by decide +kernel
theorem iwX1_judgeOne_X7 : ∀ w ∈ wsX70, w ∈ wsX1_judgeOne := by decide +kernel
theorem iwX1_judgeOne_X8 : ∀ w ∈ wsX80, w ∈ wsX1_judgeOne := by decide +kernel
theorem iwX1_judgePair_X1 : ∀ w ∈ wsX10, w ∈ wsX1_judgePair := by decide +kernel
theorem iwX1_judgePair_X7 : ∀ w ∈ wsX70, w ∈ wsX1_judgePair := by decide +kernel
set_option maxRecDepth 20000 in
theorem ggX1_judgeOne_X8_polygonOf : GoodIn wsX1_judgeOne wsX8_polygonOf := goodIn_r _ [12, 13, 14, 15, 94, 95, 96, 97, 98, 99, 100, 101, 102, 103, 104, 105, 106, 107, 126, 127, 128, 129, 130, 131, 132, 133, 134, 135] (by decide +kernel) (by decide +kernel)
set_option maxRecDepth 20000 in
theorem gX1_judgeOne_X8_polygonOf : GoodIn wsX1_judgeOne (wsV RX1 125 RX8 yX8_polygonOf wsX8_polygonOf) := goodIn_app (goodIn_of _ (by decide +kernel)) ggX1_judgeOne_X8_polygonOf
set_option maxRecDepth 20000 in
theorem ggX1_judgeOne_Jx29ce0_ordinal_8abf5 : GoodIn wsX1_judgeOne wsJx29ce0_ordinal_8abf5 := goodIn_r _ [21, 22] (by decide +kernel) (by decide +kernel)
set_option maxRecDepth 20000 in
theorem gX1_judgeOne_Jx29ce0_ordinal_8abf5_u180X2 : GoodIn wsX1_judgeOne (va_wsU RX1 180 RX2 "java/lang/Enum" ⟨"RuleDeck$Kind", "ordinal", "()I"⟩ yJx29ce0_ordinal_8abf5 wsJx29ce0_ordinal_8abf5) := goodIn_app (goodIn_of _ (by decide +kernel)) ggX1_judgeOne_Jx29ce0_ordinal_8abf5
set_option maxRecDepth 20000 in
theorem ggX1_judgeOne_X1_across : GoodIn wsX1_judgeOne wsX1_across := goodIn_r _ [27, 4, 5, 28, 1, 29, 30, 31, 32, 33, 34, 35, 36, 37, 38, 39, 40, 41, 42, 43, 11, 44, 45, 46, 47, 48, 49, 50, 51, 52, 53, 54, 55, 56, 57, 58, 26, 59, 60, 61, 62, 63, 64, 65, 66, 67, 68, 69, 70, 71, 72, 73, 74, 75, 76, 77, 78, 88, 89, 90, 91, 92, 93, 108, 109, 110, 111, 112, 113, 114, 115, 94, 95, 96, 97, 98, 99, 100, 101, 102, 103, 104, 105, 106, 107, 136, 137, 138, 139, 140, 141, 142] (by decide +kernel) (by decide +kernel)
set_option maxRecDepth 20000 in
theorem gX1_judgeOne_X1_across : GoodIn wsX1_judgeOne (wsV RX1 184 RX1 yX1_across wsX1_across) := goodIn_app (goodIn_of _ (by decide +kernel)) ggX1_judgeOne_X1_across
set_option maxRecDepth 20000 in
theorem ggX1_judgeOne_X1_judgeMeasure : GoodIn wsX1_judgeOne wsX1_judgeMeasure := goodIn_r _ [82, 4, 30, 1, 83, 40, 2, 64, 65, 66, 67, 68, 69, 70, 71, 72, 73, 74, 75, 76, 77, 78, 88, 89, 90, 91, 92, 93, 108, 109, 110, 111, 112, 113, 114, 115, 94, 95, 96, 97, 98, 99, 100, 101, 102, 103, 104, 105, 106, 107, 136, 137, 138, 139, 140, 141, 142] (by decide +kernel) (by decide +kernel)
set_option maxRecDepth 20000 in
theorem gX1_judgeOne_X1_judgeMeasure : GoodIn wsX1_judgeOne (wsV RX1 188 RX1 yX1_judgeMeasure wsX1_judgeMeasure) := goodIn_app (goodIn_of _ (by decide +kernel)) ggX1_judgeOne_X1_judgeMeasure
set_option maxRecDepth 20000 in
theorem ggX1_judgeOne_X1_judgeEdges : GoodIn wsX1_judgeOne wsX1_judgeEdges := goodIn_r _ [87, 1, 2, 29, 31, 36, 4, 30, 40, 46, 47, 48, 11, 49, 45, 41, 42, 43, 44, 61, 62, 26, 63, 64, 65, 66, 67, 68, 69, 70, 71, 72, 73, 74, 75, 76, 77, 78, 88, 89, 90, 91, 92, 93, 94, 95, 96, 97, 98, 99, 100, 101, 102, 103, 104, 105, 106, 107, 108, 109, 110, 111, 112, 113, 114, 115, 136, 137, 138, 139, 140, 141, 142] (by decide +kernel) (by decide +kernel)
set_option maxRecDepth 20000 in
theorem gX1_judgeOne_X1_judgeEdges : GoodIn wsX1_judgeOne (wsV RX1 192 RX1 yX1_judgeEdges wsX1_judgeEdges) := goodIn_app (goodIn_of _ (by decide +kernel)) ggX1_judgeOne_X1_judgeEdges
theorem dX1_judgeOne_0 : decode cX1_judgeOne 0 = .ok (.aload_n 0, 1) := by decide +kernel
theorem dX1_judgeOne_1 : decode cX1_judgeOne 1 = .ok (.getfield 30, 3) := by decide +kernel
theorem dX1_judgeOne_4 : decode cX1_judgeOne 4 = .ok (.getfield 172, 3) := by decide +kernel
theorem dX1_judgeOne_7 : decode cX1_judgeOne 7 = .ok (.iload_n 1, 1) := by decide +kernel
theorem dX1_judgeOne_8 : decode cX1_judgeOne 8 = .ok (.iaload, 1) := by decide +kernel
theorem dX1_judgeOne_9 : decode cX1_judgeOne 9 = .ok (.istore_n 2, 1) := by decide +kernel
theorem dX1_judgeOne_10 : decode cX1_judgeOne 10 = .ok (.aload_n 0, 1) := by decide +kernel
theorem dX1_judgeOne_11 : decode cX1_judgeOne 11 = .ok (.getfield 30, 3) := by decide +kernel
theorem dX1_judgeOne_14 : decode cX1_judgeOne 14 = .ok (.iload_n 1, 1) := by decide +kernel
theorem dX1_judgeOne_15 : decode cX1_judgeOne 15 = .ok (.invokevirtual 125, 3) := by decide +kernel
theorem dX1_judgeOne_18 : decode cX1_judgeOne 18 = .ok (.astore_n 3, 1) := by decide +kernel
theorem dX1_judgeOne_19 : decode cX1_judgeOne 19 = .ok (.getstatic 175, 3) := by decide +kernel
theorem dX1_judgeOne_22 : decode cX1_judgeOne 22 = .ok (.aload_n 0, 1) := by decide +kernel
theorem dX1_judgeOne_23 : decode cX1_judgeOne 23 = .ok (.getfield 41, 3) := by decide +kernel
theorem dX1_judgeOne_26 : decode cX1_judgeOne 26 = .ok (.getfield 54, 3) := by decide +kernel
theorem dX1_judgeOne_29 : decode cX1_judgeOne 29 = .ok (.invokevirtual 180, 3) := by decide +kernel
theorem dX1_judgeOne_32 : decode cX1_judgeOne 32 = .ok (.iaload, 1) := by decide +kernel
theorem dX1_judgeOne_33 : decode cX1_judgeOne 33 = .ok (.tableswitch 101 1 4 #[31, 54, 77, 89], 31) := by decide +kernel
theorem dX1_judgeOne_64 : decode cX1_judgeOne 64 = .ok (.aload_n 0, 1) := by decide +kernel
theorem dX1_judgeOne_65 : decode cX1_judgeOne 65 = .ok (.iload_n 1, 1) := by decide +kernel
theorem dX1_judgeOne_66 : decode cX1_judgeOne 66 = .ok (.iconst 2, 1) := by decide +kernel
theorem dX1_judgeOne_67 : decode cX1_judgeOne 67 = .ok (.iload_n 1, 1) := by decide +kernel
theorem dX1_judgeOne_68 : decode cX1_judgeOne 68 = .ok (.iconst 0, 1) := by decide +kernel
theorem dX1_judgeOne_69 : decode cX1_judgeOne 69 = .ok (.iload_n 2, 1) := by decide +kernel
theorem dX1_judgeOne_70 : decode cX1_judgeOne 70 = .ok (.iconst (-1), 1) := by decide +kernel
theorem dX1_judgeOne_71 : decode cX1_judgeOne 71 = .ok (.invokevirtual 184, 3) := by decide +kernel
theorem dX1_judgeOne_74 : decode cX1_judgeOne 74 = .ok (.aload_n 0, 1) := by decide +kernel
theorem dX1_judgeOne_75 : decode cX1_judgeOne 75 = .ok (.iload_n 1, 1) := by decide +kernel
theorem dX1_judgeOne_76 : decode cX1_judgeOne 76 = .ok (.iconst 3, 1) := by decide +kernel
theorem dX1_judgeOne_77 : decode cX1_judgeOne 77 = .ok (.iload_n 1, 1) := by decide +kernel
theorem dX1_judgeOne_78 : decode cX1_judgeOne 78 = .ok (.iconst 1, 1) := by decide +kernel
theorem dX1_judgeOne_79 : decode cX1_judgeOne 79 = .ok (.iload_n 2, 1) := by decide +kernel
theorem dX1_judgeOne_80 : decode cX1_judgeOne 80 = .ok (.iconst (-1), 1) := by decide +kernel
theorem dX1_judgeOne_81 : decode cX1_judgeOne 81 = .ok (.invokevirtual 184, 3) := by decide +kernel
theorem dX1_judgeOne_84 : decode cX1_judgeOne 84 = .ok (.goto 55, 3) := by decide +kernel
theorem dX1_judgeOne_87 : decode cX1_judgeOne 87 = .ok (.aload_n 0, 1) := by decide +kernel
theorem dX1_judgeOne_88 : decode cX1_judgeOne 88 = .ok (.iload_n 1, 1) := by decide +kernel
theorem dX1_judgeOne_89 : decode cX1_judgeOne 89 = .ok (.iconst 0, 1) := by decide +kernel
theorem dX1_judgeOne_90 : decode cX1_judgeOne 90 = .ok (.iload_n 1, 1) := by decide +kernel
theorem dX1_judgeOne_91 : decode cX1_judgeOne 91 = .ok (.iconst 2, 1) := by decide +kernel
theorem dX1_judgeOne_92 : decode cX1_judgeOne 92 = .ok (.iload_n 2, 1) := by decide +kernel
theorem dX1_judgeOne_93 : decode cX1_judgeOne 93 = .ok (.iconst (-1), 1) := by decide +kernel
theorem dX1_judgeOne_94 : decode cX1_judgeOne 94 = .ok (.invokevirtual 184, 3) := by decide +kernel
theorem dX1_judgeOne_97 : decode cX1_judgeOne 97 = .ok (.aload_n 0, 1) := by decide +kernel
theorem dX1_judgeOne_98 : decode cX1_judgeOne 98 = .ok (.iload_n 1, 1) := by decide +kernel
theorem dX1_judgeOne_99 : decode cX1_judgeOne 99 = .ok (.iconst 1, 1) := by decide +kernel
theorem dX1_judgeOne_100 : decode cX1_judgeOne 100 = .ok (.iload_n 1, 1) := by decide +kernel
theorem dX1_judgeOne_101 : decode cX1_judgeOne 101 = .ok (.iconst 3, 1) := by decide +kernel
theorem dX1_judgeOne_102 : decode cX1_judgeOne 102 = .ok (.iload_n 2, 1) := by decide +kernel
theorem dX1_judgeOne_103 : decode cX1_judgeOne 103 = .ok (.iconst (-1), 1) := by decide +kernel
theorem dX1_judgeOne_104 : decode cX1_judgeOne 104 = .ok (.invokevirtual 184, 3) := by decide +kernel
theorem dX1_judgeOne_107 : decode cX1_judgeOne 107 = .ok (.goto 32, 3) := by decide +kernel
theorem dX1_judgeOne_110 : decode cX1_judgeOne 110 = .ok (.aload_n 0, 1) := by decide +kernel
theorem dX1_judgeOne_111 : decode cX1_judgeOne 111 = .ok (.iload_n 1, 1) := by decide +kernel
theorem dX1_judgeOne_112 : decode cX1_judgeOne 112 = .ok (.aload_n 3, 1) := by decide +kernel
theorem dX1_judgeOne_113 : decode cX1_judgeOne 113 = .ok (.getfield 137, 3) := by decide +kernel
theorem dX1_judgeOne_116 : decode cX1_judgeOne 116 = .ok (.invokevirtual 188, 3) := by decide +kernel
theorem dX1_judgeOne_119 : decode cX1_judgeOne 119 = .ok (.goto 20, 3) := by decide +kernel
theorem dX1_judgeOne_122 : decode cX1_judgeOne 122 = .ok (.aload_n 0, 1) := by decide +kernel
theorem dX1_judgeOne_123 : decode cX1_judgeOne 123 = .ok (.iload_n 1, 1) := by decide +kernel
theorem dX1_judgeOne_124 : decode cX1_judgeOne 124 = .ok (.aload_n 3, 1) := by decide +kernel
theorem dX1_judgeOne_125 : decode cX1_judgeOne 125 = .ok (.getfield 191, 3) := by decide +kernel
theorem dX1_judgeOne_128 : decode cX1_judgeOne 128 = .ok (.invokevirtual 188, 3) := by decide +kernel
theorem dX1_judgeOne_131 : decode cX1_judgeOne 131 = .ok (.goto 8, 3) := by decide +kernel
theorem dX1_judgeOne_134 : decode cX1_judgeOne 134 = .ok (.aload_n 0, 1) := by decide +kernel
theorem dX1_judgeOne_135 : decode cX1_judgeOne 135 = .ok (.iload_n 1, 1) := by decide +kernel
theorem dX1_judgeOne_136 : decode cX1_judgeOne 136 = .ok (.invokevirtual 192, 3) := by decide +kernel
theorem dX1_judgeOne_139 : decode cX1_judgeOne 139 = .ok (.return_, 1) := by decide +kernel
set_option maxRecDepth 20000 in
theorem ggX1_judgePair_Jx29ce0_ordinal_8abf5 : GoodIn wsX1_judgePair wsJx29ce0_ordinal_8abf5 := goodIn_r _ [10, 11] (by decide +kernel) (by decide +kernel)
set_option maxRecDepth 20000 in
theorem gX1_judgePair_Jx29ce0_ordinal_8abf5_u180X2 : GoodIn wsX1_judgePair (va_wsU RX1 180 RX2 "java/lang/Enum" ⟨"RuleDeck$Kind", "ordinal", "()I"⟩ yJx29ce0_ordinal_8abf5 wsJx29ce0_ordinal_8abf5) := goodIn_app (goodIn_of _ (by decide +kernel)) ggX1_judgePair_Jx29ce0_ordinal_8abf5
set_option maxRecDepth 20000 in
theorem ggX1_judgePair_X1_areNear : GoodIn wsX1_judgePair wsX1_areNear := goodIn_r _ [16, 4, 2, 17, 18, 19, 20, 21, 22, 23, 24, 25, 26, 15, 27, 28, 29, 30, 31, 32, 33, 34, 35, 36, 37, 38, 39, 40, 41, 42, 43, 44, 45, 46, 47, 48, 49, 50, 51, 52, 53, 54, 55, 133, 134, 135, 136, 137, 138, 139, 140, 141, 142, 143, 144, 145, 146, 147, 148, 149, 150, 151, 152, 153, 154, 155, 156, 157, 158, 159, 160, 161, 162, 163, 164, 165, 166, 167, 168, 169, 170, 171, 172, 173, 174, 175, 176, 177, 178, 179, 180] (by decide +kernel) (by decide +kernel)
set_option maxRecDepth 20000 in
theorem gX1_judgePair_X1_areNear : GoodIn wsX1_judgePair (wsV RX1 217 RX1 yX1_areNear wsX1_areNear) := goodIn_app (goodIn_of _ (by decide +kernel)) ggX1_judgePair_X1_areNear
set_option maxRecDepth 20000 in
theorem ggX1_judgePair_X1_judgeSpace : GoodIn wsX1_judgePair wsX1_judgeSpace := goodIn_r _ [59, 4, 60, 61, 62, 63, 15, 64, 2, 3, 65, 66, 17, 67, 68, 54, 22, 55, 69, 70, 71, 72, 73, 74, 75, 76, 32, 77, 78, 79, 80, 81, 82, 83, 84, 85, 40, 86, 87, 88, 89, 90, 91, 92, 93, 94, 95, 96, 97, 98, 99, 100, 101, 102, 103, 104, 105, 106, 107, 108, 109, 110, 133, 134, 135, 136, 137, 138, 157, 158, 159, 160, 161, 162, 163, 164, 165, 166, 167, 168, 169, 170, 139, 140, 141, 142, 143, 144, 145, 146, 181, 182, 183, 184, 185, 186, 187] (by decide +kernel) (by decide +kernel)
set_option maxRecDepth 20000 in
theorem gX1_judgePair_X1_judgeSpace : GoodIn wsX1_judgePair (wsV RX1 220 RX1 yX1_judgeSpace wsX1_judgeSpace) := goodIn_app (goodIn_of _ (by decide +kernel)) ggX1_judgePair_X1_judgeSpace
set_option maxRecDepth 20000 in
theorem ggX1_judgePair_X1_judgeCorners : GoodIn wsX1_judgePair wsX1_judgeCorners := goodIn_r _ [114, 115, 116, 117, 15, 118, 4, 67, 66, 2, 17, 73, 70, 71, 22, 72, 68, 54, 55, 60, 79, 80, 81, 32, 82, 78, 74, 75, 76, 77, 96, 97, 98, 99, 100, 101, 102, 103, 104, 105, 106, 107, 108, 109, 110, 133, 134, 135, 136, 137, 138, 157, 158, 159, 160, 161, 162, 163, 164, 165, 166, 167, 168, 169, 170, 139, 140, 141, 142, 143, 144, 145, 146, 181, 182, 183, 184, 185, 186, 187] (by decide +kernel) (by decide +kernel)
set_option maxRecDepth 20000 in
theorem gX1_judgePair_X1_judgeCorners : GoodIn wsX1_judgePair (wsV RX1 223 RX1 yX1_judgeCorners wsX1_judgeCorners) := goodIn_app (goodIn_of _ (by decide +kernel)) ggX1_judgePair_X1_judgeCorners
set_option maxRecDepth 20000 in
theorem ggX1_judgePair_X8_boxesOverlap : GoodIn wsX1_judgePair wsX8_boxesOverlap := goodIn_r _ [122, 48, 49, 50, 32, 51, 52, 53, 54, 22, 55, 157, 158, 159, 160, 161, 162, 163, 164, 165, 166, 167, 168, 169, 170] (by decide +kernel) (by decide +kernel)
set_option maxRecDepth 20000 in
theorem gX1_judgePair_X8_boxesOverlap : GoodIn wsX1_judgePair (wsV RX1 226 RX8 yX8_boxesOverlap wsX8_boxesOverlap) := goodIn_app (goodIn_of _ (by decide +kernel)) ggX1_judgePair_X8_boxesOverlap
set_option maxRecDepth 20000 in
theorem ggX1_judgePair_X1_judgeEnclosing : GoodIn wsX1_judgePair wsX1_judgeEnclosing := goodIn_r _ [126, 4, 28, 2, 127, 128, 60, 29, 30, 31, 32, 33, 34, 35, 36, 61, 62, 63, 15, 64, 3, 65, 66, 17, 67, 68, 54, 22, 55, 69, 70, 71, 72, 73, 74, 75, 76, 77, 78, 79, 80, 81, 82, 83, 84, 85, 40, 86, 87, 88, 89, 90, 91, 92, 93, 94, 95, 96, 97, 98, 99, 100, 101, 102, 103, 104, 105, 106, 107, 108, 109, 110, 133, 134, 135, 136, 137, 138, 147, 148, 149, 150, 151, 152, 153, 154, 155, 156, 139, 140, 141, 142, 143, 144, 145, 146, 157, 158, 159, 160, 161, 162, 163, 164, 165, 166, 167, 168, 169, 170, 171, 172, 173, 174, 175, 176, 177, 178, 179, 180, 181, 182, 183, 184, 185, 186, 187] (by decide +kernel) (by decide +kernel)
set_option maxRecDepth 20000 in
theorem gX1_judgePair_X1_judgeEnclosing : GoodIn wsX1_judgePair (wsV RX1 229 RX1 yX1_judgeEnclosing wsX1_judgeEnclosing) := goodIn_app (goodIn_of _ (by decide +kernel)) ggX1_judgePair_X1_judgeEnclosing
set_option maxRecDepth 20000 in
theorem ggX1_judgePair_X1_areOnBothLayers : GoodIn wsX1_judgePair wsX1_areOnBothLayers := goodIn_r _ [27, 2, 4, 28, 29, 30, 31, 32, 33, 34, 35, 36, 37, 38, 39, 40, 41, 42, 43, 133, 134, 135, 136, 137, 138, 147, 148, 149, 150, 151, 152, 153, 154, 155, 156, 157, 158, 159, 160, 161, 162, 163, 164, 165, 166, 167, 168, 169, 170, 171, 172, 173, 174, 175, 176, 177, 178, 179, 180, 139, 140, 141, 142, 143, 144, 145, 146] (by decide +kernel) (by decide +kernel)
set_option maxRecDepth 20000 in
theorem gX1_judgePair_X1_areOnBothLayers : GoodIn wsX1_judgePair (wsV RX1 232 RX1 yX1_areOnBothLayers wsX1_areOnBothLayers) := goodIn_app (goodIn_of _ (by decide +kernel)) ggX1_judgePair_X1_areOnBothLayers
set_option maxRecDepth 20000 in
theorem ggX1_judgePair_X1_judgeOverlap : GoodIn wsX1_judgePair wsX1_judgeOverlap := goodIn_r _ [132, 4, 60, 61, 62, 63, 15, 64, 2, 3, 65, 66, 17, 67, 68, 54, 22, 55, 69, 70, 71, 72, 73, 74, 75, 76, 32, 77, 78, 79, 80, 81, 82, 83, 84, 85, 40, 86, 87, 88, 89, 90, 91, 92, 93, 94, 95, 96, 97, 98, 99, 100, 101, 102, 103, 104, 105, 106, 107, 108, 109, 110, 133, 134, 135, 136, 137, 138, 157, 158, 159, 160, 161, 162, 163, 164, 165, 166, 167, 168, 169, 170, 139, 140, 141, 142, 143, 144, 145, 146, 181, 182, 183, 184, 185, 186, 187] (by decide +kernel) (by decide +kernel)
set_option maxRecDepth 20000 in
theorem gX1_judgePair_X1_judgeOverlap : GoodIn wsX1_judgePair (wsV RX1 235 RX1 yX1_judgeOverlap wsX1_judgeOverlap) := goodIn_app (goodIn_of _ (by decide +kernel)) ggX1_judgePair_X1_judgeOverlap
theorem dX1_judgePair_0 : decode cX1_judgePair 0 = .ok (.getstatic 175, 3) := by decide +kernel
theorem dX1_judgePair_3 : decode cX1_judgePair 3 = .ok (.aload_n 0, 1) := by decide +kernel
theorem dX1_judgePair_4 : decode cX1_judgePair 4 = .ok (.getfield 41, 3) := by decide +kernel
theorem dX1_judgePair_7 : decode cX1_judgePair 7 = .ok (.getfield 54, 3) := by decide +kernel
theorem dX1_judgePair_10 : decode cX1_judgePair 10 = .ok (.invokevirtual 180, 3) := by decide +kernel
theorem dX1_judgePair_13 : decode cX1_judgePair 13 = .ok (.iaload, 1) := by decide +kernel
theorem dX1_judgePair_14 : decode cX1_judgePair 14 = .ok (.tableswitch 101 5 7 #[26, 50, 74], 26) := by decide +kernel
theorem dX1_judgePair_40 : decode cX1_judgePair 40 = .ok (.aload_n 0, 1) := by decide +kernel
theorem dX1_judgePair_41 : decode cX1_judgePair 41 = .ok (.iload_n 1, 1) := by decide +kernel
theorem dX1_judgePair_42 : decode cX1_judgePair 42 = .ok (.iload_n 2, 1) := by decide +kernel
theorem dX1_judgePair_43 : decode cX1_judgePair 43 = .ok (.invokevirtual 217, 3) := by decide +kernel
theorem dX1_judgePair_46 : decode cX1_judgePair 46 = .ok (.ifCond .eq 102, 3) := by decide +kernel
theorem dX1_judgePair_49 : decode cX1_judgePair 49 = .ok (.aload_n 0, 1) := by decide +kernel
theorem dX1_judgePair_50 : decode cX1_judgePair 50 = .ok (.iload_n 1, 1) := by decide +kernel
theorem dX1_judgePair_51 : decode cX1_judgePair 51 = .ok (.iload_n 2, 1) := by decide +kernel
theorem dX1_judgePair_52 : decode cX1_judgePair 52 = .ok (.invokevirtual 220, 3) := by decide +kernel
theorem dX1_judgePair_55 : decode cX1_judgePair 55 = .ok (.aload_n 0, 1) := by decide +kernel
theorem dX1_judgePair_56 : decode cX1_judgePair 56 = .ok (.iload_n 2, 1) := by decide +kernel
theorem dX1_judgePair_57 : decode cX1_judgePair 57 = .ok (.iload_n 1, 1) := by decide +kernel
theorem dX1_judgePair_58 : decode cX1_judgePair 58 = .ok (.invokevirtual 220, 3) := by decide +kernel
theorem dX1_judgePair_61 : decode cX1_judgePair 61 = .ok (.goto 87, 3) := by decide +kernel
theorem dX1_judgePair_64 : decode cX1_judgePair 64 = .ok (.aload_n 0, 1) := by decide +kernel
theorem dX1_judgePair_65 : decode cX1_judgePair 65 = .ok (.iload_n 1, 1) := by decide +kernel
theorem dX1_judgePair_66 : decode cX1_judgePair 66 = .ok (.iload_n 2, 1) := by decide +kernel
theorem dX1_judgePair_67 : decode cX1_judgePair 67 = .ok (.invokevirtual 217, 3) := by decide +kernel
theorem dX1_judgePair_70 : decode cX1_judgePair 70 = .ok (.ifCond .eq 78, 3) := by decide +kernel
theorem dX1_judgePair_73 : decode cX1_judgePair 73 = .ok (.aload_n 0, 1) := by decide +kernel
theorem dX1_judgePair_74 : decode cX1_judgePair 74 = .ok (.iload_n 1, 1) := by decide +kernel
theorem dX1_judgePair_75 : decode cX1_judgePair 75 = .ok (.iload_n 2, 1) := by decide +kernel
theorem dX1_judgePair_76 : decode cX1_judgePair 76 = .ok (.invokevirtual 223, 3) := by decide +kernel
theorem dX1_judgePair_79 : decode cX1_judgePair 79 = .ok (.aload_n 0, 1) := by decide +kernel
theorem dX1_judgePair_80 : decode cX1_judgePair 80 = .ok (.iload_n 2, 1) := by decide +kernel
theorem dX1_judgePair_81 : decode cX1_judgePair 81 = .ok (.iload_n 1, 1) := by decide +kernel
theorem dX1_judgePair_82 : decode cX1_judgePair 82 = .ok (.invokevirtual 223, 3) := by decide +kernel
theorem dX1_judgePair_85 : decode cX1_judgePair 85 = .ok (.goto 63, 3) := by decide +kernel
theorem dX1_judgePair_88 : decode cX1_judgePair 88 = .ok (.aload_n 0, 1) := by decide +kernel
theorem dX1_judgePair_89 : decode cX1_judgePair 89 = .ok (.getfield 30, 3) := by decide +kernel
theorem dX1_judgePair_92 : decode cX1_judgePair 92 = .ok (.iload_n 1, 1) := by decide +kernel
theorem dX1_judgePair_93 : decode cX1_judgePair 93 = .ok (.iload_n 2, 1) := by decide +kernel
theorem dX1_judgePair_94 : decode cX1_judgePair 94 = .ok (.invokevirtual 226, 3) := by decide +kernel
theorem dX1_judgePair_97 : decode cX1_judgePair 97 = .ok (.ifCond .eq 51, 3) := by decide +kernel
theorem dX1_judgePair_100 : decode cX1_judgePair 100 = .ok (.aload_n 0, 1) := by decide +kernel
theorem dX1_judgePair_101 : decode cX1_judgePair 101 = .ok (.iload_n 1, 1) := by decide +kernel
theorem dX1_judgePair_102 : decode cX1_judgePair 102 = .ok (.iload_n 2, 1) := by decide +kernel
theorem dX1_judgePair_103 : decode cX1_judgePair 103 = .ok (.invokevirtual 229, 3) := by decide +kernel
theorem dX1_judgePair_106 : decode cX1_judgePair 106 = .ok (.aload_n 0, 1) := by decide +kernel
theorem dX1_judgePair_107 : decode cX1_judgePair 107 = .ok (.iload_n 2, 1) := by decide +kernel
theorem dX1_judgePair_108 : decode cX1_judgePair 108 = .ok (.iload_n 1, 1) := by decide +kernel
theorem dX1_judgePair_109 : decode cX1_judgePair 109 = .ok (.invokevirtual 229, 3) := by decide +kernel
theorem dX1_judgePair_112 : decode cX1_judgePair 112 = .ok (.goto 36, 3) := by decide +kernel
theorem dX1_judgePair_115 : decode cX1_judgePair 115 = .ok (.aload_n 0, 1) := by decide +kernel
theorem dX1_judgePair_116 : decode cX1_judgePair 116 = .ok (.getfield 30, 3) := by decide +kernel
theorem dX1_judgePair_119 : decode cX1_judgePair 119 = .ok (.iload_n 1, 1) := by decide +kernel
theorem dX1_judgePair_120 : decode cX1_judgePair 120 = .ok (.iload_n 2, 1) := by decide +kernel
theorem dX1_judgePair_121 : decode cX1_judgePair 121 = .ok (.invokevirtual 226, 3) := by decide +kernel
theorem dX1_judgePair_124 : decode cX1_judgePair 124 = .ok (.ifCond .eq 24, 3) := by decide +kernel
theorem dX1_judgePair_127 : decode cX1_judgePair 127 = .ok (.aload_n 0, 1) := by decide +kernel
theorem dX1_judgePair_128 : decode cX1_judgePair 128 = .ok (.iload_n 1, 1) := by decide +kernel
theorem dX1_judgePair_129 : decode cX1_judgePair 129 = .ok (.iload_n 2, 1) := by decide +kernel
theorem dX1_judgePair_130 : decode cX1_judgePair 130 = .ok (.invokevirtual 232, 3) := by decide +kernel
theorem dX1_judgePair_133 : decode cX1_judgePair 133 = .ok (.ifCond .eq 15, 3) := by decide +kernel
theorem dX1_judgePair_136 : decode cX1_judgePair 136 = .ok (.aload_n 0, 1) := by decide +kernel
theorem dX1_judgePair_137 : decode cX1_judgePair 137 = .ok (.iload_n 1, 1) := by decide +kernel
theorem dX1_judgePair_138 : decode cX1_judgePair 138 = .ok (.iload_n 2, 1) := by decide +kernel
theorem dX1_judgePair_139 : decode cX1_judgePair 139 = .ok (.invokevirtual 235, 3) := by decide +kernel
theorem dX1_judgePair_142 : decode cX1_judgePair 142 = .ok (.aload_n 0, 1) := by decide +kernel
theorem dX1_judgePair_143 : decode cX1_judgePair 143 = .ok (.iload_n 2, 1) := by decide +kernel
theorem dX1_judgePair_144 : decode cX1_judgePair 144 = .ok (.iload_n 1, 1) := by decide +kernel
theorem dX1_judgePair_145 : decode cX1_judgePair 145 = .ok (.invokevirtual 235, 3) := by decide +kernel
theorem dX1_judgePair_148 : decode cX1_judgePair 148 = .ok (.return_, 1) := by decide +kernel

abbrev mX1_judgePair : sv_M := (cX1_judgePair, 3, yX1_judgePair, wsX1_judgePair, none, { frames := 10, cells := 0, slots := 0, locals := 450 }, [])
abbrev mX1_judgeOne : sv_M := (cX1_judgeOne, 4, yX1_judgeOne, wsX1_judgeOne, none, { frames := 10, cells := 0, slots := 0, locals := 450 }, [])
section SVW
variable {G : sv_G} {M M' : sv_M} {P : sv_P} {pc : Nat} {L : List (Nat × Value)} {S : List Value} {h : sv_h} {z ce sl index n : Nat}
theorem v_ksm (hw : Cond.fieldLink M.2.2.1.cls index "RuleDeck$1" "$SwitchMap$RuleDeck$Kind" "[I" ∈ M.2.2.2.1) (hdg : decode M.1 pc = .ok (.getstatic index, 3)) (kk : V G M P (pc + 3) L (.ref (G.2.2.2.2.1 102) :: S) h z ce sl) : V G M P pc L (S) h z ce sl := fun p e s m args below meth c H locs ls C K Z hS hH hl => va_gets C.1 C.2.1 Z.2.2.2.2.2.1.2.2.2.2.1.1 hS C.2.2.2.1 (C.2.2.2.2.1 _ hw) (fun _ q => q) hdg (kk p e s m args below meth c H locs ls C K Z hS hH hl)
theorem v_ksl {i : Int32} {v : Int32} (hin : vp_in i 11) (hv : sv_sm.getD i.toNatClampNeg 0 = v) (hdg : decode M.1 pc = .ok (.iaload, 1)) (kk : V G M P (pc + 1) L (.int v :: S) h z ce sl) : V G M P pc L (.int i :: .ref (G.2.2.2.2.1 102) :: S) h z ce sl := fun p e s m args below meth c H locs ls C K Z hS hH hl => va_ti C.1 C.2.1 Z.2.2.2.2.2.1.2.2.2.2.1.2 hS hin (congrArg Value.int hv) hdg (kk p e s m args below meth c H locs ls C K Z hS hH hl)
end SVW
/-- what a pair tells -/
def jPr (kd : Nat) (l1 l2 x3 x4 x5 x6 : Int32) (hmI : Int) (ly vo : Nat → Int32) (mp : Nat → mvT) (sz : Nat → Nat) (X Y : Nat → Nat → Int) (T : List Nat × Nat → Nat → List (Int × Int × Int)) (S : List (List Nat × Nat)) (i j : Nat) : List (List Int64) :=
  if kd = 7 then (if (((ly (S.getD i ([], 0)).2 = l1 ∧ ly (S.getD j ([], 0)).2 = l2) ∨ (ly (S.getD i ([], 0)).2 = l2 ∧ ly (S.getD j ([], 0)).2 = l1)) ∧ (gp_ mp sz X Y (S.getD i ([], 0)) (S.getD j ([], 0)) 0 < x3.toInt ∧ gp_ mp sz X Y (S.getD i ([], 0)) (S.getD j ([], 0)) 1 < x3.toInt) ∧ (x5 = -1 ∨ ¬ (if 0 ≤ (vo (S.getD i ([], 0)).2 - vo (S.getD j ([], 0)).2) then (vo (S.getD i ([], 0)).2 - vo (S.getD j ([], 0)).2) else 0 - (vo (S.getD i ([], 0)).2 - vo (S.getD j ([], 0)).2)) < x5)) then jSp kd x3 x4 x6 hmI T S i j ++ jSp kd x3 x4 x6 hmI T S j i else [])
  else if kd = 8 then (if (((ly (S.getD i ([], 0)).2 = l1 ∧ ly (S.getD j ([], 0)).2 = l2) ∨ (ly (S.getD i ([], 0)).2 = l2 ∧ ly (S.getD j ([], 0)).2 = l1)) ∧ (gp_ mp sz X Y (S.getD i ([], 0)) (S.getD j ([], 0)) 0 < x3.toInt ∧ gp_ mp sz X Y (S.getD i ([], 0)) (S.getD j ([], 0)) 1 < x3.toInt) ∧ (x5 = -1 ∨ ¬ (if 0 ≤ (vo (S.getD i ([], 0)).2 - vo (S.getD j ([], 0)).2) then (vo (S.getD i ([], 0)).2 - vo (S.getD j ([], 0)).2) else 0 - (vo (S.getD i ([], 0)).2 - vo (S.getD j ([], 0)).2)) < x5)) then jCo x3 hmI T (S.getD i ([], 0)) (S.getD j ([], 0)) ++ jCo x3 hmI T (S.getD j ([], 0)) (S.getD i ([], 0)) else [])
  else if kd = 9 then (if (gp_ mp sz X Y (S.getD i ([], 0)) (S.getD j ([], 0)) 0 < 0 ∧ gp_ mp sz X Y (S.getD i ([], 0)) (S.getD j ([], 0)) 1 < 0) then jEn kd x3 x4 x6 hmI T S ly l1 l2 i j ++ jEn kd x3 x4 x6 hmI T S ly l1 l2 j i else [])
  else (if (gp_ mp sz X Y (S.getD i ([], 0)) (S.getD j ([], 0)) 0 < 0 ∧ gp_ mp sz X Y (S.getD i ([], 0)) (S.getD j ([], 0)) 1 < 0) ∧ ((ly (S.getD i ([], 0)).2 = l1 ∧ ly (S.getD j ([], 0)).2 = l2) ∨ (ly (S.getD i ([], 0)).2 = l2 ∧ ly (S.getD j ([], 0)).2 = l1)) then jOv kd x3 x4 x6 hmI T S i j ++ jOv kd x3 x4 x6 hmI T S j i else [])
/-- what one tells -/
def jOn (kd : Nat) (x3 x4 x6 : Int32) (hmI : Int) (ar : Nat → Int32) (mp : Nat → mvT) (sz : Nat → Nat) (X Y : Nat → Nat → Int) (T : List Nat × Nat → Nat → List (Int × Int × Int)) (S : List (List Nat × Nat)) (i : Nat) : List (List Int64) :=
  if kd = 0 then acq kd x3 x4 x6 hmI T S i 2 i 0 ((S.getD i ([], 0)).2 : Int) (-1) ++ acq kd x3 x4 x6 hmI T S i 3 i 1 ((S.getD i ([], 0)).2 : Int) (-1)
  else if kd = 1 then acq kd x3 x4 x6 hmI T S i 0 i 2 ((S.getD i ([], 0)).2 : Int) (-1) ++ acq kd x3 x4 x6 hmI T S i 1 i 3 ((S.getD i ([], 0)).2 : Int) (-1)
  else if kd = 2 then jMs x3 hmI mp sz X Y (S.getD i ([], 0)) (ar (S.getD i ([], 0)).2).toInt
  else if kd = 4 then jMs x3 hmI mp sz X Y (S.getD i ([], 0)) (sz (S.getD i ([], 0)).2 : Int)
  else jEd x3 hmI T (S.getD i ([], 0)) 4
set_option maxHeartbeats 4000000 in
set_option maxRecDepth 100000 in
theorem c_jPair7 (G : sv_G) (hki : sv_ki G) (hb : sv_h) (z b : Nat) (k : Int32) (nc np pl : Nat) (R : Nat → Bool) (hm pa sz : Nat → Nat) (ly vo ar : Nat → Int32) (X Y : Nat → Nat → Int) (fc : Nat → Nat → Nat) (oc : Nat → Nat → Option Nat) (mp : Nat → mvT) (w3 : Bool) (T : List Nat × Nat → Nat → List (Int × Int × Int)) (S : List (List Nat × Nat)) (q t : Nat) (n0 : Int64) (kd : Nat) (l1 l2 x3 x4 x5 x6 : Int32) (K : ck_ G w3 b k nc np pl R hm pa sz ly vo ar X Y fc oc mp T S q t n0 kd l1 l2 x3 x4 x5 x6 hb) (hw : w3 = true) (hk9 : kd = 7) (hmI : Int) (hbm : bd hmI) (i : Nat) (hi : i < S.length) (j : Nat) (hj : j < S.length) (h : sv_h) (fr : ∀ a, ¬ (t ≤ a ∧ a < t + 4) → h a = hb a) (E0 : List (List Int64)) (H : tE G h t (iN hmI) E0) : CT G mX1_judgePair [.ref (b + 32), .int (nI i), .int (nI j)] h z (fun v h1 z1 => v = none ∧ z1 = z ∧ tE G h1 t (iN hmI) (E0 ++ (jPr kd l1 l2 x3 x4 x5 x6 hmI ly vo mp sz X Y T S i j)) ∧ ∀ a, ¬ (t ≤ a ∧ a < t + 4) → h1 a = hb a) := by
  refine CT.of (by decide +kernel) rfl rfl (Nat.le_of_ble_eq_true rfl) ?_
  obtain ⟨Z, ⟨⟨fb, fcx, fcy, k1, k2, k3, k4⟩, ⟨fs9, fa, fr9, ft, k5, k6, k7, k8, k9, kA, kB⟩, ⟨fsp, kC⟩, _⟩, kD, kE, kF, kG, kH, kI⟩ := id K
  obtain ⟨z0, z1, ⟨fs, z2, z3⟩, ⟨fb_, z4, z5⟩, ⟨fl, z6, z7⟩, z8, z9, ⟨fq, zA, zB⟩, zC, zD, zE, zF⟩ := id Z
  have w1 := (fr (b + 35) (by omega)).trans z1
  have w2 : ab_I G h (b + 37) 100 fs := (fr _ (by omega)).trans z2
  have w4 : ab_I G h (b + 38) 100 fb_ := (fr _ (by omega)).trans z4
  have w6 : ab_Q G h (b + 39) 3 100 fl := (fr _ (by omega)).trans z6
  have w9 := (fr (b + 1) (by omega)).trans z9
  have wA : ab_Q G h (b + 2) 4 64 fq := (fr _ (by omega)).trans zA
  have wB : ab_I G h (b + 40) 400 fb := (fr _ (by omega)).trans k1
  have wC : ab_I G h (b + 44) 401 fs9 := (fr _ (by omega)).trans k5
  have wD : ab_I G h (b + 45) 1600 fa := (fr _ (by omega)).trans k6
  have wE : ab_I G h (b + 46) 1600 fr9 := (fr _ (by omega)).trans k7
  have wF : ab_I G h (b + 47) 1600 ft := (fr _ (by omega)).trans k8
  have wG := (fr (b + 32) (by omega)).trans kD
  have wH := (fr q (by omega)).trans kE
  refine v_ksm (by decide +kernel) dX1_judgePair_0 ?_
  refine v_aload_n dX1_judgePair_3 rfl 0 rfl ?_
  refine v_getf 4 (ci := 0) (C := RX1) (T := TX1) (N := 6) rfl iwX1_judgePair_X1 (Nat.le_of_ble_eq_true rfl) (by decide +kernel) dX1_judgePair_4 (by first | with_reducible assumption) rfl ?_
  refine v_getf 1 (ci := 5) (C := RX7) (T := TX7) (N := 8) rfl iwX1_judgePair_X7 (Nat.le_of_ble_eq_true rfl) (by decide +kernel) dX1_judgePair_7 (by first | with_reducible assumption) rfl ?_
  refine v_callU (M' := mJx29ce0_ordinal_8abf5) (n := 0) (As := []) gX1_judgePair_Jx29ce0_ordinal_8abf5_u180X2 rfl rfl ⟨by decide +kernel, by decide +kernel, by decide +kernel⟩ ⟨(Nat.le_of_ble_eq_true rfl), (Nat.le_of_ble_eq_true rfl)⟩ dX1_judgePair_10 rfl ⟨(Nat.le_of_ble_eq_true rfl), (Nat.le_of_ble_eq_true rfl)⟩ (Nat.le_of_ble_eq_true rfl) kF rfl (c_ordinal G _ _ kd kF) (fun v9 h9 y9 hq => v_pq hq ?_)
  refine v_ksl (v := 5) (vp_in_nI (by omega) (by omega)) (by rw [nI_clamp (by omega), hk9]; decide) dX1_judgePair_13 ?_
  refine v_tableIn (off := 26) (tgt := 40) dX1_judgePair_14 (by decide) (by decide) (by decide) (by decide) ?_
  refine v_aload_n dX1_judgePair_40 rfl 0 rfl ?_
  refine v_iload_n dX1_judgePair_41 rfl 1 rfl ?_
  refine v_iload_n dX1_judgePair_42 rfl 2 rfl ?_
  refine v_callVq (M' := mX1_areNear) (n := 2) (As := [_, _]) (ci := 0) (r := (RX1, TX1, 6)) gX1_judgePair_X1_areNear rfl (by decide +kernel) ⟨(Nat.le_of_ble_eq_true rfl), (Nat.le_of_ble_eq_true rfl)⟩ rfl rfl dX1_judgePair_43 rfl ⟨(Nat.le_of_ble_eq_true rfl), (Nat.le_of_ble_eq_true rfl)⟩ (Nat.le_of_ble_eq_true rfl) (by first | with_reducible assumption) rfl (c_areNear G hb _ b k nc np pl R hm pa sz ly vo ar X Y fc oc mp w3 T S q t n0 kd l1 l2 x3 x4 x5 x6 K h fr i hi j hj) (fun v9 h9 y9 hq => v_pq hq ?_)
  refine v_if_eq (tgt := 148) dX1_judgePair_46 (by decide) (fun c_46 => ?_) (fun c_46 => ?_)
  · exact v_ret rfl dX1_judgePair_148 (Nat.le_of_ble_eq_true rfl) (Nat.le_of_ble_eq_true rfl) (by
          unfold jPr
          rw [if_pos hk9]
          first
            | (have c9 := H2
               rw [if_pos (sv_ifn c_46), ← List.append_assoc]
               exact ⟨rfl, rfl, c9, fr2⟩)
            | (rw [if_neg (sv_ift c_46), List.append_nil]
               exact ⟨rfl, rfl, H, fr⟩))
  · refine v_aload_n dX1_judgePair_49 rfl 0 rfl ?_
    refine v_iload_n dX1_judgePair_50 rfl 1 rfl ?_
    refine v_iload_n dX1_judgePair_51 rfl 2 rfl ?_
    refine v_callVq (M' := mX1_judgeSpace) (n := 2) (As := [_, _]) (ci := 0) (r := (RX1, TX1, 6)) gX1_judgePair_X1_judgeSpace rfl (by decide +kernel) ⟨(Nat.le_of_ble_eq_true rfl), (Nat.le_of_ble_eq_true rfl)⟩ rfl rfl dX1_judgePair_52 rfl ⟨(Nat.le_of_ble_eq_true rfl), (Nat.le_of_ble_eq_true rfl)⟩ (Nat.le_of_ble_eq_true rfl) (by first | with_reducible assumption) rfl (c_jSpace G hki hb _ b k nc np pl R hm pa sz ly vo ar X Y fc oc mp w3 T S q t n0 kd l1 l2 x3 x4 x5 x6 K hw hmI hbm i hi j hj h fr E0 H) (fun v h1 y1 hq9 => ?_)
    obtain ⟨rfl, rfl, H1, fr1⟩ := hq9
    have w11 := (fr1 (b + 35) (by omega)).trans z1
    have w21 : ab_I G h1 (b + 37) 100 fs := (fr1 _ (by omega)).trans z2
    have wG1 := (fr1 (b + 32) (by omega)).trans kD
    have wH1 := (fr1 q (by omega)).trans kE
    refine v_aload_n dX1_judgePair_55 rfl 0 rfl ?_
    refine v_iload_n dX1_judgePair_56 rfl 2 rfl ?_
    refine v_iload_n dX1_judgePair_57 rfl 1 rfl ?_
    refine v_callVq (M' := mX1_judgeSpace) (n := 2) (As := [_, _]) (ci := 0) (r := (RX1, TX1, 6)) gX1_judgePair_X1_judgeSpace rfl (by decide +kernel) ⟨(Nat.le_of_ble_eq_true rfl), (Nat.le_of_ble_eq_true rfl)⟩ rfl rfl dX1_judgePair_58 rfl ⟨(Nat.le_of_ble_eq_true rfl), (Nat.le_of_ble_eq_true rfl)⟩ (Nat.le_of_ble_eq_true rfl) (by first | with_reducible assumption) rfl (c_jSpace G hki hb _ b k nc np pl R hm pa sz ly vo ar X Y fc oc mp w3 T S q t n0 kd l1 l2 x3 x4 x5 x6 K hw hmI hbm j hj i hi h1 fr1 _ H1) (fun v h2 y2 hq9 => ?_)
    obtain ⟨rfl, rfl, H2, fr2⟩ := hq9
    have w12 := (fr2 (b + 35) (by omega)).trans z1
    have w22 : ab_I G h2 (b + 37) 100 fs := (fr2 _ (by omega)).trans z2
    have wG2 := (fr2 (b + 32) (by omega)).trans kD
    have wH2 := (fr2 q (by omega)).trans kE
    refine v_goto (tgt := 148) dX1_judgePair_61 (by decide) ?_
    exact v_ret rfl dX1_judgePair_148 (Nat.le_of_ble_eq_true rfl) (Nat.le_of_ble_eq_true rfl) (by
          unfold jPr
          rw [if_pos hk9]
          first
            | (have c9 := H2
               rw [if_pos (sv_ifn c_46), ← List.append_assoc]
               exact ⟨rfl, rfl, c9, fr2⟩)
            | (rw [if_neg (sv_ift c_46), List.append_nil]
               exact ⟨rfl, rfl, H, fr⟩))

set_option maxHeartbeats 4000000 in
set_option maxRecDepth 100000 in
theorem c_jPair8 (G : sv_G) (hb : sv_h) (z b : Nat) (k : Int32) (nc np pl : Nat) (R : Nat → Bool) (hm pa sz : Nat → Nat) (ly vo ar : Nat → Int32) (X Y : Nat → Nat → Int) (fc : Nat → Nat → Nat) (oc : Nat → Nat → Option Nat) (mp : Nat → mvT) (w3 : Bool) (T : List Nat × Nat → Nat → List (Int × Int × Int)) (S : List (List Nat × Nat)) (q t : Nat) (n0 : Int64) (kd : Nat) (l1 l2 x3 x4 x5 x6 : Int32) (K : ck_ G w3 b k nc np pl R hm pa sz ly vo ar X Y fc oc mp T S q t n0 kd l1 l2 x3 x4 x5 x6 hb) (hk9 : kd = 8) (hmI : Int) (hbm : bd hmI) (i : Nat) (hi : i < S.length) (j : Nat) (hj : j < S.length) (h : sv_h) (fr : ∀ a, ¬ (t ≤ a ∧ a < t + 4) → h a = hb a) (E0 : List (List Int64)) (H : tE G h t (iN hmI) E0) : CT G mX1_judgePair [.ref (b + 32), .int (nI i), .int (nI j)] h z (fun v h1 z1 => v = none ∧ z1 = z ∧ tE G h1 t (iN hmI) (E0 ++ (jPr kd l1 l2 x3 x4 x5 x6 hmI ly vo mp sz X Y T S i j)) ∧ ∀ a, ¬ (t ≤ a ∧ a < t + 4) → h1 a = hb a) := by
  refine CT.of (by decide +kernel) rfl rfl (Nat.le_of_ble_eq_true rfl) ?_
  obtain ⟨Z, ⟨⟨fb, fcx, fcy, k1, k2, k3, k4⟩, ⟨fs9, fa, fr9, ft, k5, k6, k7, k8, k9, kA, kB⟩, ⟨fsp, kC⟩, _⟩, kD, kE, kF, kG, kH, kI⟩ := id K
  obtain ⟨z0, z1, ⟨fs, z2, z3⟩, ⟨fb_, z4, z5⟩, ⟨fl, z6, z7⟩, z8, z9, ⟨fq, zA, zB⟩, zC, zD, zE, zF⟩ := id Z
  have w1 := (fr (b + 35) (by omega)).trans z1
  have w2 : ab_I G h (b + 37) 100 fs := (fr _ (by omega)).trans z2
  have w4 : ab_I G h (b + 38) 100 fb_ := (fr _ (by omega)).trans z4
  have w6 : ab_Q G h (b + 39) 3 100 fl := (fr _ (by omega)).trans z6
  have w9 := (fr (b + 1) (by omega)).trans z9
  have wA : ab_Q G h (b + 2) 4 64 fq := (fr _ (by omega)).trans zA
  have wB : ab_I G h (b + 40) 400 fb := (fr _ (by omega)).trans k1
  have wC : ab_I G h (b + 44) 401 fs9 := (fr _ (by omega)).trans k5
  have wD : ab_I G h (b + 45) 1600 fa := (fr _ (by omega)).trans k6
  have wE : ab_I G h (b + 46) 1600 fr9 := (fr _ (by omega)).trans k7
  have wF : ab_I G h (b + 47) 1600 ft := (fr _ (by omega)).trans k8
  have wG := (fr (b + 32) (by omega)).trans kD
  have wH := (fr q (by omega)).trans kE
  refine v_ksm (by decide +kernel) dX1_judgePair_0 ?_
  refine v_aload_n dX1_judgePair_3 rfl 0 rfl ?_
  refine v_getf 4 (ci := 0) (C := RX1) (T := TX1) (N := 6) rfl iwX1_judgePair_X1 (Nat.le_of_ble_eq_true rfl) (by decide +kernel) dX1_judgePair_4 (by first | with_reducible assumption) rfl ?_
  refine v_getf 1 (ci := 5) (C := RX7) (T := TX7) (N := 8) rfl iwX1_judgePair_X7 (Nat.le_of_ble_eq_true rfl) (by decide +kernel) dX1_judgePair_7 (by first | with_reducible assumption) rfl ?_
  refine v_callU (M' := mJx29ce0_ordinal_8abf5) (n := 0) (As := []) gX1_judgePair_Jx29ce0_ordinal_8abf5_u180X2 rfl rfl ⟨by decide +kernel, by decide +kernel, by decide +kernel⟩ ⟨(Nat.le_of_ble_eq_true rfl), (Nat.le_of_ble_eq_true rfl)⟩ dX1_judgePair_10 rfl ⟨(Nat.le_of_ble_eq_true rfl), (Nat.le_of_ble_eq_true rfl)⟩ (Nat.le_of_ble_eq_true rfl) kF rfl (c_ordinal G _ _ kd kF) (fun v9 h9 y9 hq => v_pq hq ?_)
  refine v_ksl (v := 6) (vp_in_nI (by omega) (by omega)) (by rw [nI_clamp (by omega), hk9]; decide) dX1_judgePair_13 ?_
  refine v_tableIn (off := 50) (tgt := 64) dX1_judgePair_14 (by decide) (by decide) (by decide) (by decide) ?_
  refine v_aload_n dX1_judgePair_64 rfl 0 rfl ?_
  refine v_iload_n dX1_judgePair_65 rfl 1 rfl ?_
  refine v_iload_n dX1_judgePair_66 rfl 2 rfl ?_
  refine v_callVq (M' := mX1_areNear) (n := 2) (As := [_, _]) (ci := 0) (r := (RX1, TX1, 6)) gX1_judgePair_X1_areNear rfl (by decide +kernel) ⟨(Nat.le_of_ble_eq_true rfl), (Nat.le_of_ble_eq_true rfl)⟩ rfl rfl dX1_judgePair_67 rfl ⟨(Nat.le_of_ble_eq_true rfl), (Nat.le_of_ble_eq_true rfl)⟩ (Nat.le_of_ble_eq_true rfl) (by first | with_reducible assumption) rfl (c_areNear G hb _ b k nc np pl R hm pa sz ly vo ar X Y fc oc mp w3 T S q t n0 kd l1 l2 x3 x4 x5 x6 K h fr i hi j hj) (fun v9 h9 y9 hq => v_pq hq ?_)
  refine v_if_eq (tgt := 148) dX1_judgePair_70 (by decide) (fun c_70 => ?_) (fun c_70 => ?_)
  · exact v_ret rfl dX1_judgePair_148 (Nat.le_of_ble_eq_true rfl) (Nat.le_of_ble_eq_true rfl) (by
          unfold jPr
          rw [if_neg (show ¬ kd = 7 by omega), if_pos hk9]
          first
            | (have c9 := H2
               rw [if_pos (sv_ifn c_70), ← List.append_assoc]
               exact ⟨rfl, rfl, c9, fr2⟩)
            | (rw [if_neg (sv_ift c_70), List.append_nil]
               exact ⟨rfl, rfl, H, fr⟩))
  · refine v_aload_n dX1_judgePair_73 rfl 0 rfl ?_
    refine v_iload_n dX1_judgePair_74 rfl 1 rfl ?_
    refine v_iload_n dX1_judgePair_75 rfl 2 rfl ?_
    refine v_callVq (M' := mX1_judgeCorners) (n := 2) (As := [_, _]) (ci := 0) (r := (RX1, TX1, 6)) gX1_judgePair_X1_judgeCorners rfl (by decide +kernel) ⟨(Nat.le_of_ble_eq_true rfl), (Nat.le_of_ble_eq_true rfl)⟩ rfl rfl dX1_judgePair_76 rfl ⟨(Nat.le_of_ble_eq_true rfl), (Nat.le_of_ble_eq_true rfl)⟩ (Nat.le_of_ble_eq_true rfl) (by first | with_reducible assumption) rfl (c_jCorners G hb _ b k nc np pl R hm pa sz ly vo ar X Y fc oc mp w3 T S q t n0 kd l1 l2 x3 x4 x5 x6 K hmI hbm i hi j hj h fr E0 H) (fun v h1 y1 hq9 => ?_)
    obtain ⟨rfl, rfl, H1, fr1⟩ := hq9
    have w11 := (fr1 (b + 35) (by omega)).trans z1
    have w21 : ab_I G h1 (b + 37) 100 fs := (fr1 _ (by omega)).trans z2
    have wG1 := (fr1 (b + 32) (by omega)).trans kD
    have wH1 := (fr1 q (by omega)).trans kE
    refine v_aload_n dX1_judgePair_79 rfl 0 rfl ?_
    refine v_iload_n dX1_judgePair_80 rfl 2 rfl ?_
    refine v_iload_n dX1_judgePair_81 rfl 1 rfl ?_
    refine v_callVq (M' := mX1_judgeCorners) (n := 2) (As := [_, _]) (ci := 0) (r := (RX1, TX1, 6)) gX1_judgePair_X1_judgeCorners rfl (by decide +kernel) ⟨(Nat.le_of_ble_eq_true rfl), (Nat.le_of_ble_eq_true rfl)⟩ rfl rfl dX1_judgePair_82 rfl ⟨(Nat.le_of_ble_eq_true rfl), (Nat.le_of_ble_eq_true rfl)⟩ (Nat.le_of_ble_eq_true rfl) (by first | with_reducible assumption) rfl (c_jCorners G hb _ b k nc np pl R hm pa sz ly vo ar X Y fc oc mp w3 T S q t n0 kd l1 l2 x3 x4 x5 x6 K hmI hbm j hj i hi h1 fr1 _ H1) (fun v h2 y2 hq9 => ?_)
    obtain ⟨rfl, rfl, H2, fr2⟩ := hq9
    have w12 := (fr2 (b + 35) (by omega)).trans z1
    have w22 : ab_I G h2 (b + 37) 100 fs := (fr2 _ (by omega)).trans z2
    have wG2 := (fr2 (b + 32) (by omega)).trans kD
    have wH2 := (fr2 q (by omega)).trans kE
    refine v_goto (tgt := 148) dX1_judgePair_85 (by decide) ?_
    exact v_ret rfl dX1_judgePair_148 (Nat.le_of_ble_eq_true rfl) (Nat.le_of_ble_eq_true rfl) (by
          unfold jPr
          rw [if_neg (show ¬ kd = 7 by omega), if_pos hk9]
          first
            | (have c9 := H2
               rw [if_pos (sv_ifn c_70), ← List.append_assoc]
               exact ⟨rfl, rfl, c9, fr2⟩)
            | (rw [if_neg (sv_ift c_70), List.append_nil]
               exact ⟨rfl, rfl, H, fr⟩))

set_option maxHeartbeats 4000000 in
set_option maxRecDepth 100000 in
theorem c_jPair9 (G : sv_G) (hki : sv_ki G) (hb : sv_h) (z b : Nat) (k : Int32) (nc np pl : Nat) (R : Nat → Bool) (hm pa sz : Nat → Nat) (ly vo ar : Nat → Int32) (X Y : Nat → Nat → Int) (fc : Nat → Nat → Nat) (oc : Nat → Nat → Option Nat) (mp : Nat → mvT) (w3 : Bool) (T : List Nat × Nat → Nat → List (Int × Int × Int)) (S : List (List Nat × Nat)) (q t : Nat) (n0 : Int64) (kd : Nat) (l1 l2 x3 x4 x5 x6 : Int32) (K : ck_ G w3 b k nc np pl R hm pa sz ly vo ar X Y fc oc mp T S q t n0 kd l1 l2 x3 x4 x5 x6 hb) (hw : w3 = true) (hk9 : kd = 9) (hmI : Int) (hbm : bd hmI) (i : Nat) (hi : i < S.length) (j : Nat) (hj : j < S.length) (h : sv_h) (fr : ∀ a, ¬ (t ≤ a ∧ a < t + 4) → h a = hb a) (E0 : List (List Int64)) (H : tE G h t (iN hmI) E0) : CT G mX1_judgePair [.ref (b + 32), .int (nI i), .int (nI j)] h z (fun v h1 z1 => v = none ∧ z1 = z ∧ tE G h1 t (iN hmI) (E0 ++ (jPr kd l1 l2 x3 x4 x5 x6 hmI ly vo mp sz X Y T S i j)) ∧ ∀ a, ¬ (t ≤ a ∧ a < t + 4) → h1 a = hb a) := by
  refine CT.of (by decide +kernel) rfl rfl (Nat.le_of_ble_eq_true rfl) ?_
  obtain ⟨Z, ⟨⟨fb, fcx, fcy, k1, k2, k3, k4⟩, ⟨fs9, fa, fr9, ft, k5, k6, k7, k8, k9, kA, kB⟩, ⟨fsp, kC⟩, _⟩, kD, kE, kF, kG, kH, kI⟩ := id K
  obtain ⟨z0, z1, ⟨fs, z2, z3⟩, ⟨fb_, z4, z5⟩, ⟨fl, z6, z7⟩, z8, z9, ⟨fq, zA, zB⟩, zC, zD, zE, zF⟩ := id Z
  have w1 := (fr (b + 35) (by omega)).trans z1
  have w2 : ab_I G h (b + 37) 100 fs := (fr _ (by omega)).trans z2
  have w4 : ab_I G h (b + 38) 100 fb_ := (fr _ (by omega)).trans z4
  have w6 : ab_Q G h (b + 39) 3 100 fl := (fr _ (by omega)).trans z6
  have w9 := (fr (b + 1) (by omega)).trans z9
  have wA : ab_Q G h (b + 2) 4 64 fq := (fr _ (by omega)).trans zA
  have wB : ab_I G h (b + 40) 400 fb := (fr _ (by omega)).trans k1
  have wC : ab_I G h (b + 44) 401 fs9 := (fr _ (by omega)).trans k5
  have wD : ab_I G h (b + 45) 1600 fa := (fr _ (by omega)).trans k6
  have wE : ab_I G h (b + 46) 1600 fr9 := (fr _ (by omega)).trans k7
  have wF : ab_I G h (b + 47) 1600 ft := (fr _ (by omega)).trans k8
  have wG := (fr (b + 32) (by omega)).trans kD
  have wH := (fr q (by omega)).trans kE
  refine v_ksm (by decide +kernel) dX1_judgePair_0 ?_
  refine v_aload_n dX1_judgePair_3 rfl 0 rfl ?_
  refine v_getf 4 (ci := 0) (C := RX1) (T := TX1) (N := 6) rfl iwX1_judgePair_X1 (Nat.le_of_ble_eq_true rfl) (by decide +kernel) dX1_judgePair_4 (by first | with_reducible assumption) rfl ?_
  refine v_getf 1 (ci := 5) (C := RX7) (T := TX7) (N := 8) rfl iwX1_judgePair_X7 (Nat.le_of_ble_eq_true rfl) (by decide +kernel) dX1_judgePair_7 (by first | with_reducible assumption) rfl ?_
  refine v_callU (M' := mJx29ce0_ordinal_8abf5) (n := 0) (As := []) gX1_judgePair_Jx29ce0_ordinal_8abf5_u180X2 rfl rfl ⟨by decide +kernel, by decide +kernel, by decide +kernel⟩ ⟨(Nat.le_of_ble_eq_true rfl), (Nat.le_of_ble_eq_true rfl)⟩ dX1_judgePair_10 rfl ⟨(Nat.le_of_ble_eq_true rfl), (Nat.le_of_ble_eq_true rfl)⟩ (Nat.le_of_ble_eq_true rfl) kF rfl (c_ordinal G _ _ kd kF) (fun v9 h9 y9 hq => v_pq hq ?_)
  refine v_ksl (v := 7) (vp_in_nI (by omega) (by omega)) (by rw [nI_clamp (by omega), hk9]; decide) dX1_judgePair_13 ?_
  refine v_tableIn (off := 74) (tgt := 88) dX1_judgePair_14 (by decide) (by decide) (by decide) (by decide) ?_
  refine v_aload_n dX1_judgePair_88 rfl 0 rfl ?_
  refine v_getf 1 (ci := 0) (C := RX1) (T := TX1) (N := 6) rfl iwX1_judgePair_X1 (Nat.le_of_ble_eq_true rfl) (by decide +kernel) dX1_judgePair_89 (by first | with_reducible assumption) rfl ?_
  refine v_iload_n dX1_judgePair_92 rfl 1 rfl ?_
  refine v_iload_n dX1_judgePair_93 rfl 2 rfl ?_
  refine v_callVq (M' := mX8_boxesOverlap) (n := 2) (As := [_, _]) (ci := 6) (r := (RX8, TX8, 14)) gX1_judgePair_X8_boxesOverlap rfl (by decide +kernel) ⟨(Nat.le_of_ble_eq_true rfl), (Nat.le_of_ble_eq_true rfl)⟩ rfl rfl dX1_judgePair_94 rfl ⟨(Nat.le_of_ble_eq_true rfl), (Nat.le_of_ble_eq_true rfl)⟩ (Nat.le_of_ble_eq_true rfl) (by first | with_reducible assumption) rfl (c_boxesOverlap G hb _ b k nc np pl R hm pa sz ly vo ar X Y fc oc mp w3 T S q t n0 kd l1 l2 x3 x4 x5 x6 K h fr i hi j hj) (fun v9 h9 y9 hq => v_pq hq ?_)
  refine v_if_eq (tgt := 148) dX1_judgePair_97 (by decide) (fun c_97 => ?_) (fun c_97 => ?_)
  · exact v_ret rfl dX1_judgePair_148 (Nat.le_of_ble_eq_true rfl) (Nat.le_of_ble_eq_true rfl) (by
          unfold jPr
          rw [if_neg (show ¬ kd = 7 by omega), if_neg (show ¬ kd = 8 by omega), if_pos hk9]
          first
            | (have c9 := H2
               rw [if_pos (sv_ifn c_97), ← List.append_assoc]
               exact ⟨rfl, rfl, c9, fr2⟩)
            | (rw [if_neg (sv_ift c_97), List.append_nil]
               exact ⟨rfl, rfl, H, fr⟩))
  · refine v_aload_n dX1_judgePair_100 rfl 0 rfl ?_
    refine v_iload_n dX1_judgePair_101 rfl 1 rfl ?_
    refine v_iload_n dX1_judgePair_102 rfl 2 rfl ?_
    refine v_callVq (M' := mX1_judgeEnclosing) (n := 2) (As := [_, _]) (ci := 0) (r := (RX1, TX1, 6)) gX1_judgePair_X1_judgeEnclosing rfl (by decide +kernel) ⟨(Nat.le_of_ble_eq_true rfl), (Nat.le_of_ble_eq_true rfl)⟩ rfl rfl dX1_judgePair_103 rfl ⟨(Nat.le_of_ble_eq_true rfl), (Nat.le_of_ble_eq_true rfl)⟩ (Nat.le_of_ble_eq_true rfl) (by first | with_reducible assumption) rfl (c_jEnclose G hki hb _ b k nc np pl R hm pa sz ly vo ar X Y fc oc mp w3 T S q t n0 kd l1 l2 x3 x4 x5 x6 K hw hmI hbm i hi j hj h fr E0 H) (fun v h1 y1 hq9 => ?_)
    obtain ⟨rfl, rfl, H1, fr1⟩ := hq9
    have w11 := (fr1 (b + 35) (by omega)).trans z1
    have w21 : ab_I G h1 (b + 37) 100 fs := (fr1 _ (by omega)).trans z2
    have wG1 := (fr1 (b + 32) (by omega)).trans kD
    have wH1 := (fr1 q (by omega)).trans kE
    refine v_aload_n dX1_judgePair_106 rfl 0 rfl ?_
    refine v_iload_n dX1_judgePair_107 rfl 2 rfl ?_
    refine v_iload_n dX1_judgePair_108 rfl 1 rfl ?_
    refine v_callVq (M' := mX1_judgeEnclosing) (n := 2) (As := [_, _]) (ci := 0) (r := (RX1, TX1, 6)) gX1_judgePair_X1_judgeEnclosing rfl (by decide +kernel) ⟨(Nat.le_of_ble_eq_true rfl), (Nat.le_of_ble_eq_true rfl)⟩ rfl rfl dX1_judgePair_109 rfl ⟨(Nat.le_of_ble_eq_true rfl), (Nat.le_of_ble_eq_true rfl)⟩ (Nat.le_of_ble_eq_true rfl) (by first | with_reducible assumption) rfl (c_jEnclose G hki hb _ b k nc np pl R hm pa sz ly vo ar X Y fc oc mp w3 T S q t n0 kd l1 l2 x3 x4 x5 x6 K hw hmI hbm j hj i hi h1 fr1 _ H1) (fun v h2 y2 hq9 => ?_)
    obtain ⟨rfl, rfl, H2, fr2⟩ := hq9
    have w12 := (fr2 (b + 35) (by omega)).trans z1
    have w22 : ab_I G h2 (b + 37) 100 fs := (fr2 _ (by omega)).trans z2
    have wG2 := (fr2 (b + 32) (by omega)).trans kD
    have wH2 := (fr2 q (by omega)).trans kE
    refine v_goto (tgt := 148) dX1_judgePair_112 (by decide) ?_
    exact v_ret rfl dX1_judgePair_148 (Nat.le_of_ble_eq_true rfl) (Nat.le_of_ble_eq_true rfl) (by
          unfold jPr
          rw [if_neg (show ¬ kd = 7 by omega), if_neg (show ¬ kd = 8 by omega), if_pos hk9]
          first
            | (have c9 := H2
               rw [if_pos (sv_ifn c_97), ← List.append_assoc]
               exact ⟨rfl, rfl, c9, fr2⟩)
            | (rw [if_neg (sv_ift c_97), List.append_nil]
               exact ⟨rfl, rfl, H, fr⟩))

set_option maxHeartbeats 4000000 in
set_option maxRecDepth 100000 in
theorem c_jPair10 (G : sv_G) (hki : sv_ki G) (hb : sv_h) (z b : Nat) (k : Int32) (nc np pl : Nat) (R : Nat → Bool) (hm pa sz : Nat → Nat) (ly vo ar : Nat → Int32) (X Y : Nat → Nat → Int) (fc : Nat → Nat → Nat) (oc : Nat → Nat → Option Nat) (mp : Nat → mvT) (w3 : Bool) (T : List Nat × Nat → Nat → List (Int × Int × Int)) (S : List (List Nat × Nat)) (q t : Nat) (n0 : Int64) (kd : Nat) (l1 l2 x3 x4 x5 x6 : Int32) (K : ck_ G w3 b k nc np pl R hm pa sz ly vo ar X Y fc oc mp T S q t n0 kd l1 l2 x3 x4 x5 x6 hb) (hw : w3 = true) (hk9 : kd = 10) (hmI : Int) (hbm : bd hmI) (i : Nat) (hi : i < S.length) (j : Nat) (hj : j < S.length) (h : sv_h) (fr : ∀ a, ¬ (t ≤ a ∧ a < t + 4) → h a = hb a) (E0 : List (List Int64)) (H : tE G h t (iN hmI) E0) : CT G mX1_judgePair [.ref (b + 32), .int (nI i), .int (nI j)] h z (fun v h1 z1 => v = none ∧ z1 = z ∧ tE G h1 t (iN hmI) (E0 ++ (jPr kd l1 l2 x3 x4 x5 x6 hmI ly vo mp sz X Y T S i j)) ∧ ∀ a, ¬ (t ≤ a ∧ a < t + 4) → h1 a = hb a) := by
  refine CT.of (by decide +kernel) rfl rfl (Nat.le_of_ble_eq_true rfl) ?_
  obtain ⟨Z, ⟨⟨fb, fcx, fcy, k1, k2, k3, k4⟩, ⟨fs9, fa, fr9, ft, k5, k6, k7, k8, k9, kA, kB⟩, ⟨fsp, kC⟩, _⟩, kD, kE, kF, kG, kH, kI⟩ := id K
  obtain ⟨z0, z1, ⟨fs, z2, z3⟩, ⟨fb_, z4, z5⟩, ⟨fl, z6, z7⟩, z8, z9, ⟨fq, zA, zB⟩, zC, zD, zE, zF⟩ := id Z
  have w1 := (fr (b + 35) (by omega)).trans z1
  have w2 : ab_I G h (b + 37) 100 fs := (fr _ (by omega)).trans z2
  have w4 : ab_I G h (b + 38) 100 fb_ := (fr _ (by omega)).trans z4
  have w6 : ab_Q G h (b + 39) 3 100 fl := (fr _ (by omega)).trans z6
  have w9 := (fr (b + 1) (by omega)).trans z9
  have wA : ab_Q G h (b + 2) 4 64 fq := (fr _ (by omega)).trans zA
  have wB : ab_I G h (b + 40) 400 fb := (fr _ (by omega)).trans k1
  have wC : ab_I G h (b + 44) 401 fs9 := (fr _ (by omega)).trans k5
  have wD : ab_I G h (b + 45) 1600 fa := (fr _ (by omega)).trans k6
  have wE : ab_I G h (b + 46) 1600 fr9 := (fr _ (by omega)).trans k7
  have wF : ab_I G h (b + 47) 1600 ft := (fr _ (by omega)).trans k8
  have wG := (fr (b + 32) (by omega)).trans kD
  have wH := (fr q (by omega)).trans kE
  refine v_ksm (by decide +kernel) dX1_judgePair_0 ?_
  refine v_aload_n dX1_judgePair_3 rfl 0 rfl ?_
  refine v_getf 4 (ci := 0) (C := RX1) (T := TX1) (N := 6) rfl iwX1_judgePair_X1 (Nat.le_of_ble_eq_true rfl) (by decide +kernel) dX1_judgePair_4 (by first | with_reducible assumption) rfl ?_
  refine v_getf 1 (ci := 5) (C := RX7) (T := TX7) (N := 8) rfl iwX1_judgePair_X7 (Nat.le_of_ble_eq_true rfl) (by decide +kernel) dX1_judgePair_7 (by first | with_reducible assumption) rfl ?_
  refine v_callU (M' := mJx29ce0_ordinal_8abf5) (n := 0) (As := []) gX1_judgePair_Jx29ce0_ordinal_8abf5_u180X2 rfl rfl ⟨by decide +kernel, by decide +kernel, by decide +kernel⟩ ⟨(Nat.le_of_ble_eq_true rfl), (Nat.le_of_ble_eq_true rfl)⟩ dX1_judgePair_10 rfl ⟨(Nat.le_of_ble_eq_true rfl), (Nat.le_of_ble_eq_true rfl)⟩ (Nat.le_of_ble_eq_true rfl) kF rfl (c_ordinal G _ _ kd kF) (fun v9 h9 y9 hq => v_pq hq ?_)
  refine v_ksl (v := 0) (vp_in_nI (by omega) (by omega)) (by rw [nI_clamp (by omega), hk9]; decide) dX1_judgePair_13 ?_
  refine v_tableOut (tgt := 115) dX1_judgePair_14 (by decide) (by decide) ?_
  refine v_aload_n dX1_judgePair_115 rfl 0 rfl ?_
  refine v_getf 1 (ci := 0) (C := RX1) (T := TX1) (N := 6) rfl iwX1_judgePair_X1 (Nat.le_of_ble_eq_true rfl) (by decide +kernel) dX1_judgePair_116 (by first | with_reducible assumption) rfl ?_
  refine v_iload_n dX1_judgePair_119 rfl 1 rfl ?_
  refine v_iload_n dX1_judgePair_120 rfl 2 rfl ?_
  refine v_callVq (M' := mX8_boxesOverlap) (n := 2) (As := [_, _]) (ci := 6) (r := (RX8, TX8, 14)) gX1_judgePair_X8_boxesOverlap rfl (by decide +kernel) ⟨(Nat.le_of_ble_eq_true rfl), (Nat.le_of_ble_eq_true rfl)⟩ rfl rfl dX1_judgePair_121 rfl ⟨(Nat.le_of_ble_eq_true rfl), (Nat.le_of_ble_eq_true rfl)⟩ (Nat.le_of_ble_eq_true rfl) (by first | with_reducible assumption) rfl (c_boxesOverlap G hb _ b k nc np pl R hm pa sz ly vo ar X Y fc oc mp w3 T S q t n0 kd l1 l2 x3 x4 x5 x6 K h fr i hi j hj) (fun v9 h9 y9 hq => v_pq hq ?_)
  refine v_if_eq (tgt := 148) dX1_judgePair_124 (by decide) (fun c_124 => ?_) (fun c_124 => ?_)
  · exact v_ret rfl dX1_judgePair_148 (Nat.le_of_ble_eq_true rfl) (Nat.le_of_ble_eq_true rfl) (by
          unfold jPr
          rw [if_neg (show ¬ kd = 7 by omega), if_neg (show ¬ kd = 8 by omega), if_neg (show ¬ kd = 9 by omega)]
          first
            | (have c9 := H2
               rw [if_pos ⟨sv_ifn c_124, sv_ifn c_133⟩, ← List.append_assoc]
               exact ⟨rfl, rfl, c9, fr2⟩)
            | (rw [if_neg (fun r9 => (by first | exact sv_ift c_133 r9.2 | exact sv_ift c_124 r9.1)), List.append_nil]
               exact ⟨rfl, rfl, H, fr⟩))
  · refine v_aload_n dX1_judgePair_127 rfl 0 rfl ?_
    refine v_iload_n dX1_judgePair_128 rfl 1 rfl ?_
    refine v_iload_n dX1_judgePair_129 rfl 2 rfl ?_
    refine v_callVq (M' := mX1_areOnBothLayers) (n := 2) (As := [_, _]) (ci := 0) (r := (RX1, TX1, 6)) gX1_judgePair_X1_areOnBothLayers rfl (by decide +kernel) ⟨(Nat.le_of_ble_eq_true rfl), (Nat.le_of_ble_eq_true rfl)⟩ rfl rfl dX1_judgePair_130 rfl ⟨(Nat.le_of_ble_eq_true rfl), (Nat.le_of_ble_eq_true rfl)⟩ (Nat.le_of_ble_eq_true rfl) (by first | with_reducible assumption) rfl (c_onBoth G hb _ b k nc np pl R hm pa sz ly vo ar X Y fc oc mp w3 T S q t n0 kd l1 l2 x3 x4 x5 x6 K h fr i hi j hj) (fun v9 h9 y9 hq => v_pq hq ?_)
    refine v_if_eq (tgt := 148) dX1_judgePair_133 (by decide) (fun c_133 => ?_) (fun c_133 => ?_)
    · exact v_ret rfl dX1_judgePair_148 (Nat.le_of_ble_eq_true rfl) (Nat.le_of_ble_eq_true rfl) (by
            unfold jPr
            rw [if_neg (show ¬ kd = 7 by omega), if_neg (show ¬ kd = 8 by omega), if_neg (show ¬ kd = 9 by omega)]
            first
              | (have c9 := H2
                 rw [if_pos ⟨sv_ifn c_124, sv_ifn c_133⟩, ← List.append_assoc]
                 exact ⟨rfl, rfl, c9, fr2⟩)
              | (rw [if_neg (fun r9 => (by first | exact sv_ift c_133 r9.2 | exact sv_ift c_124 r9.1)), List.append_nil]
                 exact ⟨rfl, rfl, H, fr⟩))
    · refine v_aload_n dX1_judgePair_136 rfl 0 rfl ?_
      refine v_iload_n dX1_judgePair_137 rfl 1 rfl ?_
      refine v_iload_n dX1_judgePair_138 rfl 2 rfl ?_
      refine v_callVq (M' := mX1_judgeOverlap) (n := 2) (As := [_, _]) (ci := 0) (r := (RX1, TX1, 6)) gX1_judgePair_X1_judgeOverlap rfl (by decide +kernel) ⟨(Nat.le_of_ble_eq_true rfl), (Nat.le_of_ble_eq_true rfl)⟩ rfl rfl dX1_judgePair_139 rfl ⟨(Nat.le_of_ble_eq_true rfl), (Nat.le_of_ble_eq_true rfl)⟩ (Nat.le_of_ble_eq_true rfl) (by first | with_reducible assumption) rfl (c_jOverlap G hki hb _ b k nc np pl R hm pa sz ly vo ar X Y fc oc mp w3 T S q t n0 kd l1 l2 x3 x4 x5 x6 K hw hmI hbm i hi j hj h fr E0 H) (fun v h1 y1 hq9 => ?_)
      obtain ⟨rfl, rfl, H1, fr1⟩ := hq9
      have w11 := (fr1 (b + 35) (by omega)).trans z1
      have w21 : ab_I G h1 (b + 37) 100 fs := (fr1 _ (by omega)).trans z2
      have wG1 := (fr1 (b + 32) (by omega)).trans kD
      have wH1 := (fr1 q (by omega)).trans kE
      refine v_aload_n dX1_judgePair_142 rfl 0 rfl ?_
      refine v_iload_n dX1_judgePair_143 rfl 2 rfl ?_
      refine v_iload_n dX1_judgePair_144 rfl 1 rfl ?_
      refine v_callVq (M' := mX1_judgeOverlap) (n := 2) (As := [_, _]) (ci := 0) (r := (RX1, TX1, 6)) gX1_judgePair_X1_judgeOverlap rfl (by decide +kernel) ⟨(Nat.le_of_ble_eq_true rfl), (Nat.le_of_ble_eq_true rfl)⟩ rfl rfl dX1_judgePair_145 rfl ⟨(Nat.le_of_ble_eq_true rfl), (Nat.le_of_ble_eq_true rfl)⟩ (Nat.le_of_ble_eq_true rfl) (by first | with_reducible assumption) rfl (c_jOverlap G hki hb _ b k nc np pl R hm pa sz ly vo ar X Y fc oc mp w3 T S q t n0 kd l1 l2 x3 x4 x5 x6 K hw hmI hbm j hj i hi h1 fr1 _ H1) (fun v h2 y2 hq9 => ?_)
      obtain ⟨rfl, rfl, H2, fr2⟩ := hq9
      have w12 := (fr2 (b + 35) (by omega)).trans z1
      have w22 : ab_I G h2 (b + 37) 100 fs := (fr2 _ (by omega)).trans z2
      have wG2 := (fr2 (b + 32) (by omega)).trans kD
      have wH2 := (fr2 q (by omega)).trans kE
      exact v_ret rfl dX1_judgePair_148 (Nat.le_of_ble_eq_true rfl) (Nat.le_of_ble_eq_true rfl) (by
            unfold jPr
            rw [if_neg (show ¬ kd = 7 by omega), if_neg (show ¬ kd = 8 by omega), if_neg (show ¬ kd = 9 by omega)]
            first
              | (have c9 := H2
                 rw [if_pos ⟨sv_ifn c_124, sv_ifn c_133⟩, ← List.append_assoc]
                 exact ⟨rfl, rfl, c9, fr2⟩)
              | (rw [if_neg (fun r9 => (by first | exact sv_ift c_133 r9.2 | exact sv_ift c_124 r9.1)), List.append_nil]
                 exact ⟨rfl, rfl, H, fr⟩))

theorem c_jPair (G : sv_G) (hki : sv_ki G) (hb : sv_h) (z b : Nat) (k : Int32) (nc np pl : Nat) (R : Nat → Bool) (hm pa sz : Nat → Nat) (ly vo ar : Nat → Int32) (X Y : Nat → Nat → Int) (fc : Nat → Nat → Nat) (oc : Nat → Nat → Option Nat) (mp : Nat → mvT) (w3 : Bool) (T : List Nat × Nat → Nat → List (Int × Int × Int)) (S : List (List Nat × Nat)) (q t : Nat) (n0 : Int64) (kd : Nat) (l1 l2 x3 x4 x5 x6 : Int32) (K : ck_ G w3 b k nc np pl R hm pa sz ly vo ar X Y fc oc mp T S q t n0 kd l1 l2 x3 x4 x5 x6 hb) (hk7 : 7 ≤ kd) (hw : kd ≠ 8 → w3 = true) (hmI : Int) (hbm : bd hmI) (i : Nat) (hi : i < S.length) (j : Nat) (hj : j < S.length) (h : sv_h) (fr : ∀ a, ¬ (t ≤ a ∧ a < t + 4) → h a = hb a) (E0 : List (List Int64)) (H : tE G h t (iN hmI) E0) : CT G mX1_judgePair [.ref (b + 32), .int (nI i), .int (nI j)] h z (fun v h1 z1 => v = none ∧ z1 = z ∧ tE G h1 t (iN hmI) (E0 ++ (jPr kd l1 l2 x3 x4 x5 x6 hmI ly vo mp sz X Y T S i j)) ∧ ∀ a, ¬ (t ≤ a ∧ a < t + 4) → h1 a = hb a) := by
  have kF := K.2.2.2.2.1
  by_cases e7 : kd = 7
  · exact c_jPair7 G hki hb z b k nc np pl R hm pa sz ly vo ar X Y fc oc mp w3 T S q t n0 kd l1 l2 x3 x4 x5 x6 K (hw (by omega)) e7 hmI hbm i hi j hj h fr E0 H
  · by_cases e8 : kd = 8
    · exact c_jPair8 G hb z b k nc np pl R hm pa sz ly vo ar X Y fc oc mp w3 T S q t n0 kd l1 l2 x3 x4 x5 x6 K e8 hmI hbm i hi j hj h fr E0 H
    · by_cases e9 : kd = 9
      · exact c_jPair9 G hki hb z b k nc np pl R hm pa sz ly vo ar X Y fc oc mp w3 T S q t n0 kd l1 l2 x3 x4 x5 x6 K (hw (by omega)) e9 hmI hbm i hi j hj h fr E0 H
      · exact c_jPair10 G hki hb z b k nc np pl R hm pa sz ly vo ar X Y fc oc mp w3 T S q t n0 kd l1 l2 x3 x4 x5 x6 K (hw (by omega)) (by omega) hmI hbm i hi j hj h fr E0 H
set_option maxHeartbeats 4000000 in
set_option maxRecDepth 100000 in
theorem c_jOne0 (G : sv_G) (hki : sv_ki G) (hb : sv_h) (z b : Nat) (k : Int32) (nc np pl : Nat) (R : Nat → Bool) (hm pa sz : Nat → Nat) (ly vo ar : Nat → Int32) (X Y : Nat → Nat → Int) (fc : Nat → Nat → Nat) (oc : Nat → Nat → Option Nat) (mp : Nat → mvT) (w3 : Bool) (T : List Nat × Nat → Nat → List (Int × Int × Int)) (S : List (List Nat × Nat)) (q t : Nat) (n0 : Int64) (kd : Nat) (l1 l2 x3 x4 x5 x6 : Int32) (K : ck_ G w3 b k nc np pl R hm pa sz ly vo ar X Y fc oc mp T S q t n0 kd l1 l2 x3 x4 x5 x6 hb) (hw : w3 = true) (hk9 : kd = 0) (hmI : Int) (hbm : bd hmI) (i : Nat) (hi : i < S.length) (har : bd (ar (S.getD i ([], 0)).2).toInt) (h : sv_h) (fr : ∀ a, ¬ (t ≤ a ∧ a < t + 4) → h a = hb a) (E0 : List (List Int64)) (H : tE G h t (iN hmI) E0) : CT G mX1_judgeOne [.ref (b + 32), .int (nI i)] h z (fun v h1 z1 => v = none ∧ z1 = z ∧ tE G h1 t (iN hmI) (E0 ++ (jOn kd x3 x4 x6 hmI ar mp sz X Y T S i)) ∧ ∀ a, ¬ (t ≤ a ∧ a < t + 4) → h1 a = hb a) := by
  refine CT.of (by decide +kernel) rfl rfl (Nat.le_of_ble_eq_true rfl) ?_
  obtain ⟨Z, ⟨⟨fb, fcx, fcy, k1, k2, k3, k4⟩, ⟨fs9, fa, fr9, ft, k5, k6, k7, k8, k9, kA, kB⟩, ⟨fsp, kC⟩, _⟩, kD, kE, kF, kG, kH, kI⟩ := id K
  obtain ⟨z0, z1, ⟨fs, z2, z3⟩, ⟨fb_, z4, z5⟩, ⟨fl, z6, z7⟩, z8, z9, ⟨fq, zA, zB⟩, zC, zD, zE, zF⟩ := id Z
  have w1 := (fr (b + 35) (by omega)).trans z1
  have w2 : ab_I G h (b + 37) 100 fs := (fr _ (by omega)).trans z2
  have w4 : ab_I G h (b + 38) 100 fb_ := (fr _ (by omega)).trans z4
  have w6 : ab_Q G h (b + 39) 3 100 fl := (fr _ (by omega)).trans z6
  have w9 := (fr (b + 1) (by omega)).trans z9
  have wA : ab_Q G h (b + 2) 4 64 fq := (fr _ (by omega)).trans zA
  have wB : ab_I G h (b + 40) 400 fb := (fr _ (by omega)).trans k1
  have wC : ab_I G h (b + 44) 401 fs9 := (fr _ (by omega)).trans k5
  have wD : ab_I G h (b + 45) 1600 fa := (fr _ (by omega)).trans k6
  have wE : ab_I G h (b + 46) 1600 fr9 := (fr _ (by omega)).trans k7
  have wF : ab_I G h (b + 47) 1600 ft := (fr _ (by omega)).trans k8
  have wG := (fr (b + 32) (by omega)).trans kD
  have wH := (fr q (by omega)).trans kE
  obtain ⟨c1i, c2i⟩ := zC _ (zE i hi).1
  have p1i := (fr (pa (S.getD i ([], 0)).2) (by omega)).trans c1i
  refine v_aload_n dX1_judgeOne_0 rfl 0 rfl ?_
  refine v_getf 1 (ci := 0) (C := RX1) (T := TX1) (N := 6) rfl iwX1_judgeOne_X1 (Nat.le_of_ble_eq_true rfl) (by decide +kernel) dX1_judgeOne_1 (by first | with_reducible assumption) rfl ?_
  refine v_getf 3 (ci := 6) (C := RX8) (T := TX8) (N := 14) rfl iwX1_judgeOne_X8 (Nat.le_of_ble_eq_true rfl) (by decide +kernel) dX1_judgeOne_4 (by first | with_reducible assumption) rfl ?_
  refine v_iload_n dX1_judgeOne_7 rfl 1 rfl ?_
  refine v_ialdS (v := nI (S.getD i ([], 0)).2) dX1_judgeOne_8 (by first | with_reducible assumption) (vp_in_nI (by omega) (by omega)) (by rw [nI_clamp (by omega)]; exact z3 i hi) ?_
  refine v_istore_n (L' := [(2, _), (0, _), (1, _)]) dX1_judgeOne_9 rfl (Nat.le_of_ble_eq_true rfl) rfl ?_
  refine v_aload_n dX1_judgeOne_10 rfl 1 rfl ?_
  refine v_getf 1 (ci := 0) (C := RX1) (T := TX1) (N := 6) rfl iwX1_judgeOne_X1 (Nat.le_of_ble_eq_true rfl) (by decide +kernel) dX1_judgeOne_11 (by first | with_reducible assumption) rfl ?_
  refine v_iload_n dX1_judgeOne_14 rfl 2 rfl ?_
  refine v_callVq (M' := mX8_polygonOf) (n := 1) (As := [_]) (ci := 6) (r := (RX8, TX8, 14)) gX1_judgeOne_X8_polygonOf rfl (by decide +kernel) ⟨(Nat.le_of_ble_eq_true rfl), (Nat.le_of_ble_eq_true rfl)⟩ rfl rfl dX1_judgeOne_15 rfl ⟨(Nat.le_of_ble_eq_true rfl), (Nat.le_of_ble_eq_true rfl)⟩ (Nat.le_of_ble_eq_true rfl) (by first | with_reducible assumption) rfl (c_polyK G hb _ b k nc np pl R hm pa sz ly vo ar X Y fc oc mp w3 T S q t n0 kd l1 l2 x3 x4 x5 x6 K h fr i hi) (fun v9 h9 y9 hq => v_pq hq ?_)
  refine v_astore_n (L' := [(3, _), (2, _), (0, _), (1, _)]) dX1_judgeOne_18 rfl (Nat.le_of_ble_eq_true rfl) rfl ?_
  refine v_ksm (by decide +kernel) dX1_judgeOne_19 ?_
  refine v_aload_n dX1_judgeOne_22 rfl 2 rfl ?_
  refine v_getf 4 (ci := 0) (C := RX1) (T := TX1) (N := 6) rfl iwX1_judgeOne_X1 (Nat.le_of_ble_eq_true rfl) (by decide +kernel) dX1_judgeOne_23 (by first | with_reducible assumption) rfl ?_
  refine v_getf 1 (ci := 5) (C := RX7) (T := TX7) (N := 8) rfl iwX1_judgeOne_X7 (Nat.le_of_ble_eq_true rfl) (by decide +kernel) dX1_judgeOne_26 (by first | with_reducible assumption) rfl ?_
  refine v_callU (M' := mJx29ce0_ordinal_8abf5) (n := 0) (As := []) gX1_judgeOne_Jx29ce0_ordinal_8abf5_u180X2 rfl rfl ⟨by decide +kernel, by decide +kernel, by decide +kernel⟩ ⟨(Nat.le_of_ble_eq_true rfl), (Nat.le_of_ble_eq_true rfl)⟩ dX1_judgeOne_29 rfl ⟨(Nat.le_of_ble_eq_true rfl), (Nat.le_of_ble_eq_true rfl)⟩ (Nat.le_of_ble_eq_true rfl) kF rfl (c_ordinal G _ _ kd kF) (fun v9 h9 y9 hq => v_pq hq ?_)
  refine v_ksl (v := 1) (vp_in_nI (by omega) (by omega)) (by rw [nI_clamp (by omega), hk9]; decide) dX1_judgeOne_32 ?_
  refine v_tableIn (off := 31) (tgt := 64) dX1_judgeOne_33 (by decide) (by decide) (by decide) (by decide) ?_
  refine v_aload_n dX1_judgeOne_64 rfl 2 rfl ?_
  refine v_iload_n dX1_judgeOne_65 rfl 3 rfl ?_
  refine v_iconst (v := 2) dX1_judgeOne_66 (by decide) ?_
  refine v_iload_n dX1_judgeOne_67 rfl 3 rfl ?_
  refine v_iconst (v := 0) dX1_judgeOne_68 (by decide) ?_
  refine v_iload_n dX1_judgeOne_69 rfl 1 rfl ?_
  refine v_iconst (v := (-1)) dX1_judgeOne_70 (by decide) ?_
  refine v_callVq (M' := mX1_across) (n := 6) (As := [_, _, _, _, _, _]) (ci := 0) (r := (RX1, TX1, 6)) gX1_judgeOne_X1_across rfl (by decide +kernel) ⟨(Nat.le_of_ble_eq_true rfl), (Nat.le_of_ble_eq_true rfl)⟩ rfl rfl dX1_judgeOne_71 rfl ⟨(Nat.le_of_ble_eq_true rfl), (Nat.le_of_ble_eq_true rfl)⟩ (Nat.le_of_ble_eq_true rfl) (by first | with_reducible assumption) rfl (c_acrossN G hki hb _ b k nc np pl R hm pa sz ly vo ar X Y fc oc mp w3 T S q t n0 kd l1 l2 x3 x4 x5 x6 K hw hmI hbm ((S.getD i ([], 0)).2 : Int) (-1) (show bd ((S.getD i ([], 0)).2 : Int) from by have := (zE i hi).1; unfold bd; omega) (show bd (-1) from by unfold bd; omega) i hi 2 (by decide) i hi 0 (by decide) _ fr _ H (by decide) (by decide) rfl (by decide)) (fun v h1 y1 hq9 => ?_)
  obtain ⟨rfl, rfl, H1, fr1⟩ := hq9
  have w11 := (fr1 (b + 35) (by omega)).trans z1
  have w21 : ab_I G h1 (b + 37) 100 fs := (fr1 _ (by omega)).trans z2
  have wG1 := (fr1 (b + 32) (by omega)).trans kD
  have wH1 := (fr1 q (by omega)).trans kE
  refine v_aload_n dX1_judgeOne_74 rfl 2 rfl ?_
  refine v_iload_n dX1_judgeOne_75 rfl 3 rfl ?_
  refine v_iconst (v := 3) dX1_judgeOne_76 (by decide) ?_
  refine v_iload_n dX1_judgeOne_77 rfl 3 rfl ?_
  refine v_iconst (v := 1) dX1_judgeOne_78 (by decide) ?_
  refine v_iload_n dX1_judgeOne_79 rfl 1 rfl ?_
  refine v_iconst (v := (-1)) dX1_judgeOne_80 (by decide) ?_
  refine v_callVq (M' := mX1_across) (n := 6) (As := [_, _, _, _, _, _]) (ci := 0) (r := (RX1, TX1, 6)) gX1_judgeOne_X1_across rfl (by decide +kernel) ⟨(Nat.le_of_ble_eq_true rfl), (Nat.le_of_ble_eq_true rfl)⟩ rfl rfl dX1_judgeOne_81 rfl ⟨(Nat.le_of_ble_eq_true rfl), (Nat.le_of_ble_eq_true rfl)⟩ (Nat.le_of_ble_eq_true rfl) (by first | with_reducible assumption) rfl (c_acrossN G hki hb _ b k nc np pl R hm pa sz ly vo ar X Y fc oc mp w3 T S q t n0 kd l1 l2 x3 x4 x5 x6 K hw hmI hbm ((S.getD i ([], 0)).2 : Int) (-1) (show bd ((S.getD i ([], 0)).2 : Int) from by have := (zE i hi).1; unfold bd; omega) (show bd (-1) from by unfold bd; omega) i hi 3 (by decide) i hi 1 (by decide) _ fr1 _ H1 (by decide) (by decide) rfl (by decide)) (fun v h2 y2 hq9 => ?_)
  obtain ⟨rfl, rfl, H2, fr2⟩ := hq9
  have w12 := (fr2 (b + 35) (by omega)).trans z1
  have w22 : ab_I G h2 (b + 37) 100 fs := (fr2 _ (by omega)).trans z2
  have wG2 := (fr2 (b + 32) (by omega)).trans kD
  have wH2 := (fr2 q (by omega)).trans kE
  refine v_goto (tgt := 139) dX1_judgeOne_84 (by decide) ?_
  exact v_ret rfl dX1_judgeOne_139 (Nat.le_of_ble_eq_true rfl) (Nat.le_of_ble_eq_true rfl) (by
        unfold jOn
        rw [if_pos hk9]
        rw [← List.append_assoc]
        exact ⟨rfl, rfl, H2, fr2⟩)

set_option maxHeartbeats 4000000 in
set_option maxRecDepth 100000 in
theorem c_jOne1 (G : sv_G) (hki : sv_ki G) (hb : sv_h) (z b : Nat) (k : Int32) (nc np pl : Nat) (R : Nat → Bool) (hm pa sz : Nat → Nat) (ly vo ar : Nat → Int32) (X Y : Nat → Nat → Int) (fc : Nat → Nat → Nat) (oc : Nat → Nat → Option Nat) (mp : Nat → mvT) (w3 : Bool) (T : List Nat × Nat → Nat → List (Int × Int × Int)) (S : List (List Nat × Nat)) (q t : Nat) (n0 : Int64) (kd : Nat) (l1 l2 x3 x4 x5 x6 : Int32) (K : ck_ G w3 b k nc np pl R hm pa sz ly vo ar X Y fc oc mp T S q t n0 kd l1 l2 x3 x4 x5 x6 hb) (hw : w3 = true) (hk9 : kd = 1) (hmI : Int) (hbm : bd hmI) (i : Nat) (hi : i < S.length) (har : bd (ar (S.getD i ([], 0)).2).toInt) (h : sv_h) (fr : ∀ a, ¬ (t ≤ a ∧ a < t + 4) → h a = hb a) (E0 : List (List Int64)) (H : tE G h t (iN hmI) E0) : CT G mX1_judgeOne [.ref (b + 32), .int (nI i)] h z (fun v h1 z1 => v = none ∧ z1 = z ∧ tE G h1 t (iN hmI) (E0 ++ (jOn kd x3 x4 x6 hmI ar mp sz X Y T S i)) ∧ ∀ a, ¬ (t ≤ a ∧ a < t + 4) → h1 a = hb a) := by
  refine CT.of (by decide +kernel) rfl rfl (Nat.le_of_ble_eq_true rfl) ?_
  obtain ⟨Z, ⟨⟨fb, fcx, fcy, k1, k2, k3, k4⟩, ⟨fs9, fa, fr9, ft, k5, k6, k7, k8, k9, kA, kB⟩, ⟨fsp, kC⟩, _⟩, kD, kE, kF, kG, kH, kI⟩ := id K
  obtain ⟨z0, z1, ⟨fs, z2, z3⟩, ⟨fb_, z4, z5⟩, ⟨fl, z6, z7⟩, z8, z9, ⟨fq, zA, zB⟩, zC, zD, zE, zF⟩ := id Z
  have w1 := (fr (b + 35) (by omega)).trans z1
  have w2 : ab_I G h (b + 37) 100 fs := (fr _ (by omega)).trans z2
  have w4 : ab_I G h (b + 38) 100 fb_ := (fr _ (by omega)).trans z4
  have w6 : ab_Q G h (b + 39) 3 100 fl := (fr _ (by omega)).trans z6
  have w9 := (fr (b + 1) (by omega)).trans z9
  have wA : ab_Q G h (b + 2) 4 64 fq := (fr _ (by omega)).trans zA
  have wB : ab_I G h (b + 40) 400 fb := (fr _ (by omega)).trans k1
  have wC : ab_I G h (b + 44) 401 fs9 := (fr _ (by omega)).trans k5
  have wD : ab_I G h (b + 45) 1600 fa := (fr _ (by omega)).trans k6
  have wE : ab_I G h (b + 46) 1600 fr9 := (fr _ (by omega)).trans k7
  have wF : ab_I G h (b + 47) 1600 ft := (fr _ (by omega)).trans k8
  have wG := (fr (b + 32) (by omega)).trans kD
  have wH := (fr q (by omega)).trans kE
  obtain ⟨c1i, c2i⟩ := zC _ (zE i hi).1
  have p1i := (fr (pa (S.getD i ([], 0)).2) (by omega)).trans c1i
  refine v_aload_n dX1_judgeOne_0 rfl 0 rfl ?_
  refine v_getf 1 (ci := 0) (C := RX1) (T := TX1) (N := 6) rfl iwX1_judgeOne_X1 (Nat.le_of_ble_eq_true rfl) (by decide +kernel) dX1_judgeOne_1 (by first | with_reducible assumption) rfl ?_
  refine v_getf 3 (ci := 6) (C := RX8) (T := TX8) (N := 14) rfl iwX1_judgeOne_X8 (Nat.le_of_ble_eq_true rfl) (by decide +kernel) dX1_judgeOne_4 (by first | with_reducible assumption) rfl ?_
  refine v_iload_n dX1_judgeOne_7 rfl 1 rfl ?_
  refine v_ialdS (v := nI (S.getD i ([], 0)).2) dX1_judgeOne_8 (by first | with_reducible assumption) (vp_in_nI (by omega) (by omega)) (by rw [nI_clamp (by omega)]; exact z3 i hi) ?_
  refine v_istore_n (L' := [(2, _), (0, _), (1, _)]) dX1_judgeOne_9 rfl (Nat.le_of_ble_eq_true rfl) rfl ?_
  refine v_aload_n dX1_judgeOne_10 rfl 1 rfl ?_
  refine v_getf 1 (ci := 0) (C := RX1) (T := TX1) (N := 6) rfl iwX1_judgeOne_X1 (Nat.le_of_ble_eq_true rfl) (by decide +kernel) dX1_judgeOne_11 (by first | with_reducible assumption) rfl ?_
  refine v_iload_n dX1_judgeOne_14 rfl 2 rfl ?_
  refine v_callVq (M' := mX8_polygonOf) (n := 1) (As := [_]) (ci := 6) (r := (RX8, TX8, 14)) gX1_judgeOne_X8_polygonOf rfl (by decide +kernel) ⟨(Nat.le_of_ble_eq_true rfl), (Nat.le_of_ble_eq_true rfl)⟩ rfl rfl dX1_judgeOne_15 rfl ⟨(Nat.le_of_ble_eq_true rfl), (Nat.le_of_ble_eq_true rfl)⟩ (Nat.le_of_ble_eq_true rfl) (by first | with_reducible assumption) rfl (c_polyK G hb _ b k nc np pl R hm pa sz ly vo ar X Y fc oc mp w3 T S q t n0 kd l1 l2 x3 x4 x5 x6 K h fr i hi) (fun v9 h9 y9 hq => v_pq hq ?_)
  refine v_astore_n (L' := [(3, _), (2, _), (0, _), (1, _)]) dX1_judgeOne_18 rfl (Nat.le_of_ble_eq_true rfl) rfl ?_
  refine v_ksm (by decide +kernel) dX1_judgeOne_19 ?_
  refine v_aload_n dX1_judgeOne_22 rfl 2 rfl ?_
  refine v_getf 4 (ci := 0) (C := RX1) (T := TX1) (N := 6) rfl iwX1_judgeOne_X1 (Nat.le_of_ble_eq_true rfl) (by decide +kernel) dX1_judgeOne_23 (by first | with_reducible assumption) rfl ?_
  refine v_getf 1 (ci := 5) (C := RX7) (T := TX7) (N := 8) rfl iwX1_judgeOne_X7 (Nat.le_of_ble_eq_true rfl) (by decide +kernel) dX1_judgeOne_26 (by first | with_reducible assumption) rfl ?_
  refine v_callU (M' := mJx29ce0_ordinal_8abf5) (n := 0) (As := []) gX1_judgeOne_Jx29ce0_ordinal_8abf5_u180X2 rfl rfl ⟨by decide +kernel, by decide +kernel, by decide +kernel⟩ ⟨(Nat.le_of_ble_eq_true rfl), (Nat.le_of_ble_eq_true rfl)⟩ dX1_judgeOne_29 rfl ⟨(Nat.le_of_ble_eq_true rfl), (Nat.le_of_ble_eq_true rfl)⟩ (Nat.le_of_ble_eq_true rfl) kF rfl (c_ordinal G _ _ kd kF) (fun v9 h9 y9 hq => v_pq hq ?_)
  refine v_ksl (v := 2) (vp_in_nI (by omega) (by omega)) (by rw [nI_clamp (by omega), hk9]; decide) dX1_judgeOne_32 ?_
  refine v_tableIn (off := 54) (tgt := 87) dX1_judgeOne_33 (by decide) (by decide) (by decide) (by decide) ?_
  refine v_aload_n dX1_judgeOne_87 rfl 2 rfl ?_
  refine v_iload_n dX1_judgeOne_88 rfl 3 rfl ?_
  refine v_iconst (v := 0) dX1_judgeOne_89 (by decide) ?_
  refine v_iload_n dX1_judgeOne_90 rfl 3 rfl ?_
  refine v_iconst (v := 2) dX1_judgeOne_91 (by decide) ?_
  refine v_iload_n dX1_judgeOne_92 rfl 1 rfl ?_
  refine v_iconst (v := (-1)) dX1_judgeOne_93 (by decide) ?_
  refine v_callVq (M' := mX1_across) (n := 6) (As := [_, _, _, _, _, _]) (ci := 0) (r := (RX1, TX1, 6)) gX1_judgeOne_X1_across rfl (by decide +kernel) ⟨(Nat.le_of_ble_eq_true rfl), (Nat.le_of_ble_eq_true rfl)⟩ rfl rfl dX1_judgeOne_94 rfl ⟨(Nat.le_of_ble_eq_true rfl), (Nat.le_of_ble_eq_true rfl)⟩ (Nat.le_of_ble_eq_true rfl) (by first | with_reducible assumption) rfl (c_acrossN G hki hb _ b k nc np pl R hm pa sz ly vo ar X Y fc oc mp w3 T S q t n0 kd l1 l2 x3 x4 x5 x6 K hw hmI hbm ((S.getD i ([], 0)).2 : Int) (-1) (show bd ((S.getD i ([], 0)).2 : Int) from by have := (zE i hi).1; unfold bd; omega) (show bd (-1) from by unfold bd; omega) i hi 0 (by decide) i hi 2 (by decide) _ fr _ H (by decide) (by decide) rfl (by decide)) (fun v h1 y1 hq9 => ?_)
  obtain ⟨rfl, rfl, H1, fr1⟩ := hq9
  have w11 := (fr1 (b + 35) (by omega)).trans z1
  have w21 : ab_I G h1 (b + 37) 100 fs := (fr1 _ (by omega)).trans z2
  have wG1 := (fr1 (b + 32) (by omega)).trans kD
  have wH1 := (fr1 q (by omega)).trans kE
  refine v_aload_n dX1_judgeOne_97 rfl 2 rfl ?_
  refine v_iload_n dX1_judgeOne_98 rfl 3 rfl ?_
  refine v_iconst (v := 1) dX1_judgeOne_99 (by decide) ?_
  refine v_iload_n dX1_judgeOne_100 rfl 3 rfl ?_
  refine v_iconst (v := 3) dX1_judgeOne_101 (by decide) ?_
  refine v_iload_n dX1_judgeOne_102 rfl 1 rfl ?_
  refine v_iconst (v := (-1)) dX1_judgeOne_103 (by decide) ?_
  refine v_callVq (M' := mX1_across) (n := 6) (As := [_, _, _, _, _, _]) (ci := 0) (r := (RX1, TX1, 6)) gX1_judgeOne_X1_across rfl (by decide +kernel) ⟨(Nat.le_of_ble_eq_true rfl), (Nat.le_of_ble_eq_true rfl)⟩ rfl rfl dX1_judgeOne_104 rfl ⟨(Nat.le_of_ble_eq_true rfl), (Nat.le_of_ble_eq_true rfl)⟩ (Nat.le_of_ble_eq_true rfl) (by first | with_reducible assumption) rfl (c_acrossN G hki hb _ b k nc np pl R hm pa sz ly vo ar X Y fc oc mp w3 T S q t n0 kd l1 l2 x3 x4 x5 x6 K hw hmI hbm ((S.getD i ([], 0)).2 : Int) (-1) (show bd ((S.getD i ([], 0)).2 : Int) from by have := (zE i hi).1; unfold bd; omega) (show bd (-1) from by unfold bd; omega) i hi 1 (by decide) i hi 3 (by decide) _ fr1 _ H1 (by decide) (by decide) rfl (by decide)) (fun v h2 y2 hq9 => ?_)
  obtain ⟨rfl, rfl, H2, fr2⟩ := hq9
  have w12 := (fr2 (b + 35) (by omega)).trans z1
  have w22 : ab_I G h2 (b + 37) 100 fs := (fr2 _ (by omega)).trans z2
  have wG2 := (fr2 (b + 32) (by omega)).trans kD
  have wH2 := (fr2 q (by omega)).trans kE
  refine v_goto (tgt := 139) dX1_judgeOne_107 (by decide) ?_
  exact v_ret rfl dX1_judgeOne_139 (Nat.le_of_ble_eq_true rfl) (Nat.le_of_ble_eq_true rfl) (by
        unfold jOn
        rw [if_neg (show ¬ kd = 0 by omega), if_pos hk9]
        rw [← List.append_assoc]
        exact ⟨rfl, rfl, H2, fr2⟩)

set_option maxHeartbeats 4000000 in
set_option maxRecDepth 100000 in
theorem c_jOne2 (G : sv_G) (hki : sv_ki G) (hb : sv_h) (z b : Nat) (k : Int32) (nc np pl : Nat) (R : Nat → Bool) (hm pa sz : Nat → Nat) (ly vo ar : Nat → Int32) (X Y : Nat → Nat → Int) (fc : Nat → Nat → Nat) (oc : Nat → Nat → Option Nat) (mp : Nat → mvT) (w3 : Bool) (T : List Nat × Nat → Nat → List (Int × Int × Int)) (S : List (List Nat × Nat)) (q t : Nat) (n0 : Int64) (kd : Nat) (l1 l2 x3 x4 x5 x6 : Int32) (K : ck_ G w3 b k nc np pl R hm pa sz ly vo ar X Y fc oc mp T S q t n0 kd l1 l2 x3 x4 x5 x6 hb) (hw : w3 = true) (hk9 : kd = 2) (hmI : Int) (hbm : bd hmI) (i : Nat) (hi : i < S.length) (har : bd (ar (S.getD i ([], 0)).2).toInt) (h : sv_h) (fr : ∀ a, ¬ (t ≤ a ∧ a < t + 4) → h a = hb a) (E0 : List (List Int64)) (H : tE G h t (iN hmI) E0) : CT G mX1_judgeOne [.ref (b + 32), .int (nI i)] h z (fun v h1 z1 => v = none ∧ z1 = z ∧ tE G h1 t (iN hmI) (E0 ++ (jOn kd x3 x4 x6 hmI ar mp sz X Y T S i)) ∧ ∀ a, ¬ (t ≤ a ∧ a < t + 4) → h1 a = hb a) := by
  refine CT.of (by decide +kernel) rfl rfl (Nat.le_of_ble_eq_true rfl) ?_
  obtain ⟨Z, ⟨⟨fb, fcx, fcy, k1, k2, k3, k4⟩, ⟨fs9, fa, fr9, ft, k5, k6, k7, k8, k9, kA, kB⟩, ⟨fsp, kC⟩, _⟩, kD, kE, kF, kG, kH, kI⟩ := id K
  obtain ⟨z0, z1, ⟨fs, z2, z3⟩, ⟨fb_, z4, z5⟩, ⟨fl, z6, z7⟩, z8, z9, ⟨fq, zA, zB⟩, zC, zD, zE, zF⟩ := id Z
  have w1 := (fr (b + 35) (by omega)).trans z1
  have w2 : ab_I G h (b + 37) 100 fs := (fr _ (by omega)).trans z2
  have w4 : ab_I G h (b + 38) 100 fb_ := (fr _ (by omega)).trans z4
  have w6 : ab_Q G h (b + 39) 3 100 fl := (fr _ (by omega)).trans z6
  have w9 := (fr (b + 1) (by omega)).trans z9
  have wA : ab_Q G h (b + 2) 4 64 fq := (fr _ (by omega)).trans zA
  have wB : ab_I G h (b + 40) 400 fb := (fr _ (by omega)).trans k1
  have wC : ab_I G h (b + 44) 401 fs9 := (fr _ (by omega)).trans k5
  have wD : ab_I G h (b + 45) 1600 fa := (fr _ (by omega)).trans k6
  have wE : ab_I G h (b + 46) 1600 fr9 := (fr _ (by omega)).trans k7
  have wF : ab_I G h (b + 47) 1600 ft := (fr _ (by omega)).trans k8
  have wG := (fr (b + 32) (by omega)).trans kD
  have wH := (fr q (by omega)).trans kE
  obtain ⟨c1i, c2i⟩ := zC _ (zE i hi).1
  have p1i := (fr (pa (S.getD i ([], 0)).2) (by omega)).trans c1i
  refine v_aload_n dX1_judgeOne_0 rfl 0 rfl ?_
  refine v_getf 1 (ci := 0) (C := RX1) (T := TX1) (N := 6) rfl iwX1_judgeOne_X1 (Nat.le_of_ble_eq_true rfl) (by decide +kernel) dX1_judgeOne_1 (by first | with_reducible assumption) rfl ?_
  refine v_getf 3 (ci := 6) (C := RX8) (T := TX8) (N := 14) rfl iwX1_judgeOne_X8 (Nat.le_of_ble_eq_true rfl) (by decide +kernel) dX1_judgeOne_4 (by first | with_reducible assumption) rfl ?_
  refine v_iload_n dX1_judgeOne_7 rfl 1 rfl ?_
  refine v_ialdS (v := nI (S.getD i ([], 0)).2) dX1_judgeOne_8 (by first | with_reducible assumption) (vp_in_nI (by omega) (by omega)) (by rw [nI_clamp (by omega)]; exact z3 i hi) ?_
  refine v_istore_n (L' := [(2, _), (0, _), (1, _)]) dX1_judgeOne_9 rfl (Nat.le_of_ble_eq_true rfl) rfl ?_
  refine v_aload_n dX1_judgeOne_10 rfl 1 rfl ?_
  refine v_getf 1 (ci := 0) (C := RX1) (T := TX1) (N := 6) rfl iwX1_judgeOne_X1 (Nat.le_of_ble_eq_true rfl) (by decide +kernel) dX1_judgeOne_11 (by first | with_reducible assumption) rfl ?_
  refine v_iload_n dX1_judgeOne_14 rfl 2 rfl ?_
  refine v_callVq (M' := mX8_polygonOf) (n := 1) (As := [_]) (ci := 6) (r := (RX8, TX8, 14)) gX1_judgeOne_X8_polygonOf rfl (by decide +kernel) ⟨(Nat.le_of_ble_eq_true rfl), (Nat.le_of_ble_eq_true rfl)⟩ rfl rfl dX1_judgeOne_15 rfl ⟨(Nat.le_of_ble_eq_true rfl), (Nat.le_of_ble_eq_true rfl)⟩ (Nat.le_of_ble_eq_true rfl) (by first | with_reducible assumption) rfl (c_polyK G hb _ b k nc np pl R hm pa sz ly vo ar X Y fc oc mp w3 T S q t n0 kd l1 l2 x3 x4 x5 x6 K h fr i hi) (fun v9 h9 y9 hq => v_pq hq ?_)
  refine v_astore_n (L' := [(3, _), (2, _), (0, _), (1, _)]) dX1_judgeOne_18 rfl (Nat.le_of_ble_eq_true rfl) rfl ?_
  refine v_ksm (by decide +kernel) dX1_judgeOne_19 ?_
  refine v_aload_n dX1_judgeOne_22 rfl 2 rfl ?_
  refine v_getf 4 (ci := 0) (C := RX1) (T := TX1) (N := 6) rfl iwX1_judgeOne_X1 (Nat.le_of_ble_eq_true rfl) (by decide +kernel) dX1_judgeOne_23 (by first | with_reducible assumption) rfl ?_
  refine v_getf 1 (ci := 5) (C := RX7) (T := TX7) (N := 8) rfl iwX1_judgeOne_X7 (Nat.le_of_ble_eq_true rfl) (by decide +kernel) dX1_judgeOne_26 (by first | with_reducible assumption) rfl ?_
  refine v_callU (M' := mJx29ce0_ordinal_8abf5) (n := 0) (As := []) gX1_judgeOne_Jx29ce0_ordinal_8abf5_u180X2 rfl rfl ⟨by decide +kernel, by decide +kernel, by decide +kernel⟩ ⟨(Nat.le_of_ble_eq_true rfl), (Nat.le_of_ble_eq_true rfl)⟩ dX1_judgeOne_29 rfl ⟨(Nat.le_of_ble_eq_true rfl), (Nat.le_of_ble_eq_true rfl)⟩ (Nat.le_of_ble_eq_true rfl) kF rfl (c_ordinal G _ _ kd kF) (fun v9 h9 y9 hq => v_pq hq ?_)
  refine v_ksl (v := 3) (vp_in_nI (by omega) (by omega)) (by rw [nI_clamp (by omega), hk9]; decide) dX1_judgeOne_32 ?_
  refine v_tableIn (off := 77) (tgt := 110) dX1_judgeOne_33 (by decide) (by decide) (by decide) (by decide) ?_
  refine v_aload_n dX1_judgeOne_110 rfl 2 rfl ?_
  refine v_iload_n dX1_judgeOne_111 rfl 3 rfl ?_
  refine v_aload_n dX1_judgeOne_112 rfl 0 rfl ?_
  refine v_getf 7 (ci := 3) (C := RX5) (T := TX5) (N := 10) rfl iwX1_judgeOne_X5 (Nat.le_of_ble_eq_true rfl) (by decide +kernel) dX1_judgeOne_113 (by first | with_reducible assumption) rfl ?_
  rw [← iN_of (ar (S.getD i ([], 0)).2)]
  refine v_callVq (M' := mX1_judgeMeasure) (n := 2) (As := [_, _]) (ci := 0) (r := (RX1, TX1, 6)) gX1_judgeOne_X1_judgeMeasure rfl (by decide +kernel) ⟨(Nat.le_of_ble_eq_true rfl), (Nat.le_of_ble_eq_true rfl)⟩ rfl rfl dX1_judgeOne_116 rfl ⟨(Nat.le_of_ble_eq_true rfl), (Nat.le_of_ble_eq_true rfl)⟩ (Nat.le_of_ble_eq_true rfl) (by first | with_reducible assumption) rfl (c_jMeasure G hb _ b k nc np pl R hm pa sz ly vo ar X Y fc oc mp w3 T S q t n0 kd l1 l2 x3 x4 x5 x6 K hmI hbm i hi h fr E0 H (ar (S.getD i ([], 0)).2).toInt har) (fun v h1 y1 hq9 => ?_)
  obtain ⟨rfl, rfl, H1, fr1⟩ := hq9
  have w11 := (fr1 (b + 35) (by omega)).trans z1
  have w21 : ab_I G h1 (b + 37) 100 fs := (fr1 _ (by omega)).trans z2
  have wG1 := (fr1 (b + 32) (by omega)).trans kD
  have wH1 := (fr1 q (by omega)).trans kE
  refine v_goto (tgt := 139) dX1_judgeOne_119 (by decide) ?_
  exact v_ret rfl dX1_judgeOne_139 (Nat.le_of_ble_eq_true rfl) (Nat.le_of_ble_eq_true rfl) (by
        unfold jOn
        rw [if_neg (show ¬ kd = 0 by omega), if_neg (show ¬ kd = 1 by omega), if_pos hk9]
        exact ⟨rfl, rfl, H1, fr1⟩)

set_option maxHeartbeats 4000000 in
set_option maxRecDepth 100000 in
theorem c_jOne3 (G : sv_G) (hki : sv_ki G) (hb : sv_h) (z b : Nat) (k : Int32) (nc np pl : Nat) (R : Nat → Bool) (hm pa sz : Nat → Nat) (ly vo ar : Nat → Int32) (X Y : Nat → Nat → Int) (fc : Nat → Nat → Nat) (oc : Nat → Nat → Option Nat) (mp : Nat → mvT) (w3 : Bool) (T : List Nat × Nat → Nat → List (Int × Int × Int)) (S : List (List Nat × Nat)) (q t : Nat) (n0 : Int64) (kd : Nat) (l1 l2 x3 x4 x5 x6 : Int32) (K : ck_ G w3 b k nc np pl R hm pa sz ly vo ar X Y fc oc mp T S q t n0 kd l1 l2 x3 x4 x5 x6 hb) (hw : w3 = true) (hk9 : kd = 3) (hmI : Int) (hbm : bd hmI) (i : Nat) (hi : i < S.length) (har : bd (ar (S.getD i ([], 0)).2).toInt) (h : sv_h) (fr : ∀ a, ¬ (t ≤ a ∧ a < t + 4) → h a = hb a) (E0 : List (List Int64)) (H : tE G h t (iN hmI) E0) : CT G mX1_judgeOne [.ref (b + 32), .int (nI i)] h z (fun v h1 z1 => v = none ∧ z1 = z ∧ tE G h1 t (iN hmI) (E0 ++ (jOn kd x3 x4 x6 hmI ar mp sz X Y T S i)) ∧ ∀ a, ¬ (t ≤ a ∧ a < t + 4) → h1 a = hb a) := by
  refine CT.of (by decide +kernel) rfl rfl (Nat.le_of_ble_eq_true rfl) ?_
  obtain ⟨Z, ⟨⟨fb, fcx, fcy, k1, k2, k3, k4⟩, ⟨fs9, fa, fr9, ft, k5, k6, k7, k8, k9, kA, kB⟩, ⟨fsp, kC⟩, _⟩, kD, kE, kF, kG, kH, kI⟩ := id K
  obtain ⟨z0, z1, ⟨fs, z2, z3⟩, ⟨fb_, z4, z5⟩, ⟨fl, z6, z7⟩, z8, z9, ⟨fq, zA, zB⟩, zC, zD, zE, zF⟩ := id Z
  have w1 := (fr (b + 35) (by omega)).trans z1
  have w2 : ab_I G h (b + 37) 100 fs := (fr _ (by omega)).trans z2
  have w4 : ab_I G h (b + 38) 100 fb_ := (fr _ (by omega)).trans z4
  have w6 : ab_Q G h (b + 39) 3 100 fl := (fr _ (by omega)).trans z6
  have w9 := (fr (b + 1) (by omega)).trans z9
  have wA : ab_Q G h (b + 2) 4 64 fq := (fr _ (by omega)).trans zA
  have wB : ab_I G h (b + 40) 400 fb := (fr _ (by omega)).trans k1
  have wC : ab_I G h (b + 44) 401 fs9 := (fr _ (by omega)).trans k5
  have wD : ab_I G h (b + 45) 1600 fa := (fr _ (by omega)).trans k6
  have wE : ab_I G h (b + 46) 1600 fr9 := (fr _ (by omega)).trans k7
  have wF : ab_I G h (b + 47) 1600 ft := (fr _ (by omega)).trans k8
  have wG := (fr (b + 32) (by omega)).trans kD
  have wH := (fr q (by omega)).trans kE
  obtain ⟨c1i, c2i⟩ := zC _ (zE i hi).1
  have p1i := (fr (pa (S.getD i ([], 0)).2) (by omega)).trans c1i
  refine v_aload_n dX1_judgeOne_0 rfl 0 rfl ?_
  refine v_getf 1 (ci := 0) (C := RX1) (T := TX1) (N := 6) rfl iwX1_judgeOne_X1 (Nat.le_of_ble_eq_true rfl) (by decide +kernel) dX1_judgeOne_1 (by first | with_reducible assumption) rfl ?_
  refine v_getf 3 (ci := 6) (C := RX8) (T := TX8) (N := 14) rfl iwX1_judgeOne_X8 (Nat.le_of_ble_eq_true rfl) (by decide +kernel) dX1_judgeOne_4 (by first | with_reducible assumption) rfl ?_
  refine v_iload_n dX1_judgeOne_7 rfl 1 rfl ?_
  refine v_ialdS (v := nI (S.getD i ([], 0)).2) dX1_judgeOne_8 (by first | with_reducible assumption) (vp_in_nI (by omega) (by omega)) (by rw [nI_clamp (by omega)]; exact z3 i hi) ?_
  refine v_istore_n (L' := [(2, _), (0, _), (1, _)]) dX1_judgeOne_9 rfl (Nat.le_of_ble_eq_true rfl) rfl ?_
  refine v_aload_n dX1_judgeOne_10 rfl 1 rfl ?_
  refine v_getf 1 (ci := 0) (C := RX1) (T := TX1) (N := 6) rfl iwX1_judgeOne_X1 (Nat.le_of_ble_eq_true rfl) (by decide +kernel) dX1_judgeOne_11 (by first | with_reducible assumption) rfl ?_
  refine v_iload_n dX1_judgeOne_14 rfl 2 rfl ?_
  refine v_callVq (M' := mX8_polygonOf) (n := 1) (As := [_]) (ci := 6) (r := (RX8, TX8, 14)) gX1_judgeOne_X8_polygonOf rfl (by decide +kernel) ⟨(Nat.le_of_ble_eq_true rfl), (Nat.le_of_ble_eq_true rfl)⟩ rfl rfl dX1_judgeOne_15 rfl ⟨(Nat.le_of_ble_eq_true rfl), (Nat.le_of_ble_eq_true rfl)⟩ (Nat.le_of_ble_eq_true rfl) (by first | with_reducible assumption) rfl (c_polyK G hb _ b k nc np pl R hm pa sz ly vo ar X Y fc oc mp w3 T S q t n0 kd l1 l2 x3 x4 x5 x6 K h fr i hi) (fun v9 h9 y9 hq => v_pq hq ?_)
  refine v_astore_n (L' := [(3, _), (2, _), (0, _), (1, _)]) dX1_judgeOne_18 rfl (Nat.le_of_ble_eq_true rfl) rfl ?_
  refine v_ksm (by decide +kernel) dX1_judgeOne_19 ?_
  refine v_aload_n dX1_judgeOne_22 rfl 2 rfl ?_
  refine v_getf 4 (ci := 0) (C := RX1) (T := TX1) (N := 6) rfl iwX1_judgeOne_X1 (Nat.le_of_ble_eq_true rfl) (by decide +kernel) dX1_judgeOne_23 (by first | with_reducible assumption) rfl ?_
  refine v_getf 1 (ci := 5) (C := RX7) (T := TX7) (N := 8) rfl iwX1_judgeOne_X7 (Nat.le_of_ble_eq_true rfl) (by decide +kernel) dX1_judgeOne_26 (by first | with_reducible assumption) rfl ?_
  refine v_callU (M' := mJx29ce0_ordinal_8abf5) (n := 0) (As := []) gX1_judgeOne_Jx29ce0_ordinal_8abf5_u180X2 rfl rfl ⟨by decide +kernel, by decide +kernel, by decide +kernel⟩ ⟨(Nat.le_of_ble_eq_true rfl), (Nat.le_of_ble_eq_true rfl)⟩ dX1_judgeOne_29 rfl ⟨(Nat.le_of_ble_eq_true rfl), (Nat.le_of_ble_eq_true rfl)⟩ (Nat.le_of_ble_eq_true rfl) kF rfl (c_ordinal G _ _ kd kF) (fun v9 h9 y9 hq => v_pq hq ?_)
  refine v_ksl (v := 0) (vp_in_nI (by omega) (by omega)) (by rw [nI_clamp (by omega), hk9]; decide) dX1_judgeOne_32 ?_
  refine v_tableOut (tgt := 134) dX1_judgeOne_33 (by decide) (by decide) ?_
  refine v_aload_n dX1_judgeOne_134 rfl 2 rfl ?_
  refine v_iload_n dX1_judgeOne_135 rfl 3 rfl ?_
  refine v_callVq (M' := mX1_judgeEdges) (n := 1) (As := [_]) (ci := 0) (r := (RX1, TX1, 6)) gX1_judgeOne_X1_judgeEdges rfl (by decide +kernel) ⟨(Nat.le_of_ble_eq_true rfl), (Nat.le_of_ble_eq_true rfl)⟩ rfl rfl dX1_judgeOne_136 rfl ⟨(Nat.le_of_ble_eq_true rfl), (Nat.le_of_ble_eq_true rfl)⟩ (Nat.le_of_ble_eq_true rfl) (by first | with_reducible assumption) rfl (c_jEdges G hb _ b k nc np pl R hm pa sz ly vo ar X Y fc oc mp w3 T S q t n0 kd l1 l2 x3 x4 x5 x6 K hw hmI hbm i hi h fr E0 H) (fun v h1 y1 hq9 => ?_)
  obtain ⟨rfl, rfl, H1, fr1⟩ := hq9
  have w11 := (fr1 (b + 35) (by omega)).trans z1
  have w21 : ab_I G h1 (b + 37) 100 fs := (fr1 _ (by omega)).trans z2
  have wG1 := (fr1 (b + 32) (by omega)).trans kD
  have wH1 := (fr1 q (by omega)).trans kE
  exact v_ret rfl dX1_judgeOne_139 (Nat.le_of_ble_eq_true rfl) (Nat.le_of_ble_eq_true rfl) (by
        unfold jOn
        rw [if_neg (show ¬ kd = 0 by omega), if_neg (show ¬ kd = 1 by omega), if_neg (show ¬ kd = 2 by omega), if_neg (show ¬ kd = 4 by omega)]
        exact ⟨rfl, rfl, H1, fr1⟩)

set_option maxHeartbeats 4000000 in
set_option maxRecDepth 100000 in
theorem c_jOne4 (G : sv_G) (hki : sv_ki G) (hb : sv_h) (z b : Nat) (k : Int32) (nc np pl : Nat) (R : Nat → Bool) (hm pa sz : Nat → Nat) (ly vo ar : Nat → Int32) (X Y : Nat → Nat → Int) (fc : Nat → Nat → Nat) (oc : Nat → Nat → Option Nat) (mp : Nat → mvT) (w3 : Bool) (T : List Nat × Nat → Nat → List (Int × Int × Int)) (S : List (List Nat × Nat)) (q t : Nat) (n0 : Int64) (kd : Nat) (l1 l2 x3 x4 x5 x6 : Int32) (K : ck_ G w3 b k nc np pl R hm pa sz ly vo ar X Y fc oc mp T S q t n0 kd l1 l2 x3 x4 x5 x6 hb) (hw : w3 = true) (hk9 : kd = 4) (hmI : Int) (hbm : bd hmI) (i : Nat) (hi : i < S.length) (har : bd (ar (S.getD i ([], 0)).2).toInt) (h : sv_h) (fr : ∀ a, ¬ (t ≤ a ∧ a < t + 4) → h a = hb a) (E0 : List (List Int64)) (H : tE G h t (iN hmI) E0) : CT G mX1_judgeOne [.ref (b + 32), .int (nI i)] h z (fun v h1 z1 => v = none ∧ z1 = z ∧ tE G h1 t (iN hmI) (E0 ++ (jOn kd x3 x4 x6 hmI ar mp sz X Y T S i)) ∧ ∀ a, ¬ (t ≤ a ∧ a < t + 4) → h1 a = hb a) := by
  refine CT.of (by decide +kernel) rfl rfl (Nat.le_of_ble_eq_true rfl) ?_
  obtain ⟨Z, ⟨⟨fb, fcx, fcy, k1, k2, k3, k4⟩, ⟨fs9, fa, fr9, ft, k5, k6, k7, k8, k9, kA, kB⟩, ⟨fsp, kC⟩, _⟩, kD, kE, kF, kG, kH, kI⟩ := id K
  obtain ⟨z0, z1, ⟨fs, z2, z3⟩, ⟨fb_, z4, z5⟩, ⟨fl, z6, z7⟩, z8, z9, ⟨fq, zA, zB⟩, zC, zD, zE, zF⟩ := id Z
  have w1 := (fr (b + 35) (by omega)).trans z1
  have w2 : ab_I G h (b + 37) 100 fs := (fr _ (by omega)).trans z2
  have w4 : ab_I G h (b + 38) 100 fb_ := (fr _ (by omega)).trans z4
  have w6 : ab_Q G h (b + 39) 3 100 fl := (fr _ (by omega)).trans z6
  have w9 := (fr (b + 1) (by omega)).trans z9
  have wA : ab_Q G h (b + 2) 4 64 fq := (fr _ (by omega)).trans zA
  have wB : ab_I G h (b + 40) 400 fb := (fr _ (by omega)).trans k1
  have wC : ab_I G h (b + 44) 401 fs9 := (fr _ (by omega)).trans k5
  have wD : ab_I G h (b + 45) 1600 fa := (fr _ (by omega)).trans k6
  have wE : ab_I G h (b + 46) 1600 fr9 := (fr _ (by omega)).trans k7
  have wF : ab_I G h (b + 47) 1600 ft := (fr _ (by omega)).trans k8
  have wG := (fr (b + 32) (by omega)).trans kD
  have wH := (fr q (by omega)).trans kE
  obtain ⟨c1i, c2i⟩ := zC _ (zE i hi).1
  have p1i := (fr (pa (S.getD i ([], 0)).2) (by omega)).trans c1i
  refine v_aload_n dX1_judgeOne_0 rfl 0 rfl ?_
  refine v_getf 1 (ci := 0) (C := RX1) (T := TX1) (N := 6) rfl iwX1_judgeOne_X1 (Nat.le_of_ble_eq_true rfl) (by decide +kernel) dX1_judgeOne_1 (by first | with_reducible assumption) rfl ?_
  refine v_getf 3 (ci := 6) (C := RX8) (T := TX8) (N := 14) rfl iwX1_judgeOne_X8 (Nat.le_of_ble_eq_true rfl) (by decide +kernel) dX1_judgeOne_4 (by first | with_reducible assumption) rfl ?_
  refine v_iload_n dX1_judgeOne_7 rfl 1 rfl ?_
  refine v_ialdS (v := nI (S.getD i ([], 0)).2) dX1_judgeOne_8 (by first | with_reducible assumption) (vp_in_nI (by omega) (by omega)) (by rw [nI_clamp (by omega)]; exact z3 i hi) ?_
  refine v_istore_n (L' := [(2, _), (0, _), (1, _)]) dX1_judgeOne_9 rfl (Nat.le_of_ble_eq_true rfl) rfl ?_
  refine v_aload_n dX1_judgeOne_10 rfl 1 rfl ?_
  refine v_getf 1 (ci := 0) (C := RX1) (T := TX1) (N := 6) rfl iwX1_judgeOne_X1 (Nat.le_of_ble_eq_true rfl) (by decide +kernel) dX1_judgeOne_11 (by first | with_reducible assumption) rfl ?_
  refine v_iload_n dX1_judgeOne_14 rfl 2 rfl ?_
  refine v_callVq (M' := mX8_polygonOf) (n := 1) (As := [_]) (ci := 6) (r := (RX8, TX8, 14)) gX1_judgeOne_X8_polygonOf rfl (by decide +kernel) ⟨(Nat.le_of_ble_eq_true rfl), (Nat.le_of_ble_eq_true rfl)⟩ rfl rfl dX1_judgeOne_15 rfl ⟨(Nat.le_of_ble_eq_true rfl), (Nat.le_of_ble_eq_true rfl)⟩ (Nat.le_of_ble_eq_true rfl) (by first | with_reducible assumption) rfl (c_polyK G hb _ b k nc np pl R hm pa sz ly vo ar X Y fc oc mp w3 T S q t n0 kd l1 l2 x3 x4 x5 x6 K h fr i hi) (fun v9 h9 y9 hq => v_pq hq ?_)
  refine v_astore_n (L' := [(3, _), (2, _), (0, _), (1, _)]) dX1_judgeOne_18 rfl (Nat.le_of_ble_eq_true rfl) rfl ?_
  refine v_ksm (by decide +kernel) dX1_judgeOne_19 ?_
  refine v_aload_n dX1_judgeOne_22 rfl 2 rfl ?_
  refine v_getf 4 (ci := 0) (C := RX1) (T := TX1) (N := 6) rfl iwX1_judgeOne_X1 (Nat.le_of_ble_eq_true rfl) (by decide +kernel) dX1_judgeOne_23 (by first | with_reducible assumption) rfl ?_
  refine v_getf 1 (ci := 5) (C := RX7) (T := TX7) (N := 8) rfl iwX1_judgeOne_X7 (Nat.le_of_ble_eq_true rfl) (by decide +kernel) dX1_judgeOne_26 (by first | with_reducible assumption) rfl ?_
  refine v_callU (M' := mJx29ce0_ordinal_8abf5) (n := 0) (As := []) gX1_judgeOne_Jx29ce0_ordinal_8abf5_u180X2 rfl rfl ⟨by decide +kernel, by decide +kernel, by decide +kernel⟩ ⟨(Nat.le_of_ble_eq_true rfl), (Nat.le_of_ble_eq_true rfl)⟩ dX1_judgeOne_29 rfl ⟨(Nat.le_of_ble_eq_true rfl), (Nat.le_of_ble_eq_true rfl)⟩ (Nat.le_of_ble_eq_true rfl) kF rfl (c_ordinal G _ _ kd kF) (fun v9 h9 y9 hq => v_pq hq ?_)
  refine v_ksl (v := 4) (vp_in_nI (by omega) (by omega)) (by rw [nI_clamp (by omega), hk9]; decide) dX1_judgeOne_32 ?_
  refine v_tableIn (off := 89) (tgt := 122) dX1_judgeOne_33 (by decide) (by decide) (by decide) (by decide) ?_
  refine v_aload_n dX1_judgeOne_122 rfl 2 rfl ?_
  refine v_iload_n dX1_judgeOne_123 rfl 3 rfl ?_
  refine v_aload_n dX1_judgeOne_124 rfl 0 rfl ?_
  refine v_getf 4 (ci := 3) (C := RX5) (T := TX5) (N := 10) rfl iwX1_judgeOne_X5 (Nat.le_of_ble_eq_true rfl) (by decide +kernel) dX1_judgeOne_125 (by first | with_reducible assumption) rfl ?_
  refine v_callVq (M' := mX1_judgeMeasure) (n := 2) (As := [_, _]) (ci := 0) (r := (RX1, TX1, 6)) gX1_judgeOne_X1_judgeMeasure rfl (by decide +kernel) ⟨(Nat.le_of_ble_eq_true rfl), (Nat.le_of_ble_eq_true rfl)⟩ rfl rfl dX1_judgeOne_128 rfl ⟨(Nat.le_of_ble_eq_true rfl), (Nat.le_of_ble_eq_true rfl)⟩ (Nat.le_of_ble_eq_true rfl) (by first | with_reducible assumption) rfl (c_jMeasure G hb _ b k nc np pl R hm pa sz ly vo ar X Y fc oc mp w3 T S q t n0 kd l1 l2 x3 x4 x5 x6 K hmI hbm i hi h fr E0 H (sz (S.getD i ([], 0)).2 : Int) (show bd _ from by obtain ⟨_, _, _, _, _, _, _, _, _, _, g5⟩ := zD _ (zE i hi).1 (zE i hi).2.1; unfold bd; omega)) (fun v h1 y1 hq9 => ?_)
  obtain ⟨rfl, rfl, H1, fr1⟩ := hq9
  have w11 := (fr1 (b + 35) (by omega)).trans z1
  have w21 : ab_I G h1 (b + 37) 100 fs := (fr1 _ (by omega)).trans z2
  have wG1 := (fr1 (b + 32) (by omega)).trans kD
  have wH1 := (fr1 q (by omega)).trans kE
  refine v_goto (tgt := 139) dX1_judgeOne_131 (by decide) ?_
  exact v_ret rfl dX1_judgeOne_139 (Nat.le_of_ble_eq_true rfl) (Nat.le_of_ble_eq_true rfl) (by
        unfold jOn
        rw [if_neg (show ¬ kd = 0 by omega), if_neg (show ¬ kd = 1 by omega), if_neg (show ¬ kd = 2 by omega), if_pos hk9]
        exact ⟨rfl, rfl, H1, fr1⟩)

theorem c_jOne (G : sv_G) (hki : sv_ki G) (hb : sv_h) (z b : Nat) (k : Int32) (nc np pl : Nat) (R : Nat → Bool) (hm pa sz : Nat → Nat) (ly vo ar : Nat → Int32) (X Y : Nat → Nat → Int) (fc : Nat → Nat → Nat) (oc : Nat → Nat → Option Nat) (mp : Nat → mvT) (w3 : Bool) (T : List Nat × Nat → Nat → List (Int × Int × Int)) (S : List (List Nat × Nat)) (q t : Nat) (n0 : Int64) (kd : Nat) (l1 l2 x3 x4 x5 x6 : Int32) (K : ck_ G w3 b k nc np pl R hm pa sz ly vo ar X Y fc oc mp T S q t n0 kd l1 l2 x3 x4 x5 x6 hb) (hw : w3 = true) (hk5 : kd < 5) (hmI : Int) (hbm : bd hmI) (i : Nat) (hi : i < S.length) (har : bd (ar (S.getD i ([], 0)).2).toInt) (h : sv_h) (fr : ∀ a, ¬ (t ≤ a ∧ a < t + 4) → h a = hb a) (E0 : List (List Int64)) (H : tE G h t (iN hmI) E0) : CT G mX1_judgeOne [.ref (b + 32), .int (nI i)] h z (fun v h1 z1 => v = none ∧ z1 = z ∧ tE G h1 t (iN hmI) (E0 ++ (jOn kd x3 x4 x6 hmI ar mp sz X Y T S i)) ∧ ∀ a, ¬ (t ≤ a ∧ a < t + 4) → h1 a = hb a) := by
  by_cases e0 : kd = 0
  · exact c_jOne0 G hki hb z b k nc np pl R hm pa sz ly vo ar X Y fc oc mp w3 T S q t n0 kd l1 l2 x3 x4 x5 x6 K hw e0 hmI hbm i hi har h fr E0 H
  · by_cases e1 : kd = 1
    · exact c_jOne1 G hki hb z b k nc np pl R hm pa sz ly vo ar X Y fc oc mp w3 T S q t n0 kd l1 l2 x3 x4 x5 x6 K hw e1 hmI hbm i hi har h fr E0 H
    · by_cases e2 : kd = 2
      · exact c_jOne2 G hki hb z b k nc np pl R hm pa sz ly vo ar X Y fc oc mp w3 T S q t n0 kd l1 l2 x3 x4 x5 x6 K hw e2 hmI hbm i hi har h fr E0 H
      · by_cases e3 : kd = 3
        · exact c_jOne3 G hki hb z b k nc np pl R hm pa sz ly vo ar X Y fc oc mp w3 T S q t n0 kd l1 l2 x3 x4 x5 x6 K hw e3 hmI hbm i hi har h fr E0 H
        · exact c_jOne4 G hki hb z b k nc np pl R hm pa sz ly vo ar X Y fc oc mp w3 T S q t n0 kd l1 l2 x3 x4 x5 x6 K hw (by omega) hmI hbm i hi har h fr E0 H
