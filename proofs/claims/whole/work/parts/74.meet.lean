theorem iwX13_cornerX_X13 : ∀ w ∈ wsX130, w ∈ wsX13_cornerX := by decide +kernel
theorem iwX13_cornerY_X13 : ∀ w ∈ wsX130, w ∈ wsX13_cornerY := by decide +kernel
theorem iwX13_isRight_X13 : ∀ w ∈ wsX130, w ∈ wsX13_isRight := by decide +kernel
theorem dX13_cornerX_0 : decode cX13_cornerX 0 = .ok (.aload_n 0, 1) := by decide +kernel
theorem dX13_cornerX_1 : decode cX13_cornerX 1 = .ok (.getfield 23, 3) := by decide +kernel
theorem dX13_cornerX_4 : decode cX13_cornerX 4 = .ok (.bipush 16, 2) := by decide +kernel
theorem dX13_cornerX_6 : decode cX13_cornerX 6 = .ok (.iload_n 1, 1) := by decide +kernel
theorem dX13_cornerX_7 : decode cX13_cornerX 7 = .ok (.imul, 1) := by decide +kernel
theorem dX13_cornerX_8 : decode cX13_cornerX 8 = .ok (.iload_n 2, 1) := by decide +kernel
theorem dX13_cornerX_9 : decode cX13_cornerX 9 = .ok (.aload_n 0, 1) := by decide +kernel
theorem dX13_cornerX_10 : decode cX13_cornerX 10 = .ok (.getfield 20, 3) := by decide +kernel
theorem dX13_cornerX_13 : decode cX13_cornerX 13 = .ok (.iload_n 1, 1) := by decide +kernel
theorem dX13_cornerX_14 : decode cX13_cornerX 14 = .ok (.iaload, 1) := by decide +kernel
theorem dX13_cornerX_15 : decode cX13_cornerX 15 = .ok (.irem, 1) := by decide +kernel
theorem dX13_cornerX_16 : decode cX13_cornerX 16 = .ok (.iadd, 1) := by decide +kernel
theorem dX13_cornerX_17 : decode cX13_cornerX 17 = .ok (.laload, 1) := by decide +kernel
theorem dX13_cornerX_18 : decode cX13_cornerX 18 = .ok (.lreturn, 1) := by decide +kernel
theorem dX13_cornerY_0 : decode cX13_cornerY 0 = .ok (.aload_n 0, 1) := by decide +kernel
theorem dX13_cornerY_1 : decode cX13_cornerY 1 = .ok (.getfield 26, 3) := by decide +kernel
theorem dX13_cornerY_4 : decode cX13_cornerY 4 = .ok (.bipush 16, 2) := by decide +kernel
theorem dX13_cornerY_6 : decode cX13_cornerY 6 = .ok (.iload_n 1, 1) := by decide +kernel
theorem dX13_cornerY_7 : decode cX13_cornerY 7 = .ok (.imul, 1) := by decide +kernel
theorem dX13_cornerY_8 : decode cX13_cornerY 8 = .ok (.iload_n 2, 1) := by decide +kernel
theorem dX13_cornerY_9 : decode cX13_cornerY 9 = .ok (.aload_n 0, 1) := by decide +kernel
theorem dX13_cornerY_10 : decode cX13_cornerY 10 = .ok (.getfield 20, 3) := by decide +kernel
theorem dX13_cornerY_13 : decode cX13_cornerY 13 = .ok (.iload_n 1, 1) := by decide +kernel
theorem dX13_cornerY_14 : decode cX13_cornerY 14 = .ok (.iaload, 1) := by decide +kernel
theorem dX13_cornerY_15 : decode cX13_cornerY 15 = .ok (.irem, 1) := by decide +kernel
theorem dX13_cornerY_16 : decode cX13_cornerY 16 = .ok (.iadd, 1) := by decide +kernel
theorem dX13_cornerY_17 : decode cX13_cornerY 17 = .ok (.laload, 1) := by decide +kernel
theorem dX13_cornerY_18 : decode cX13_cornerY 18 = .ok (.lreturn, 1) := by decide +kernel
theorem dX13_least_0 : decode cX13_least 0 = .ok (.lload_n 0, 1) := by decide +kernel
theorem dX13_least_1 : decode cX13_least 1 = .ok (.lload_n 2, 1) := by decide +kernel
theorem dX13_least_2 : decode cX13_least 2 = .ok (.lcmp, 1) := by decide +kernel
theorem dX13_least_3 : decode cX13_least 3 = .ok (.ifCond .ge 7, 3) := by decide +kernel
theorem dX13_least_6 : decode cX13_least 6 = .ok (.lload_n 0, 1) := by decide +kernel
theorem dX13_least_7 : decode cX13_least 7 = .ok (.goto 4, 3) := by decide +kernel
theorem dX13_least_10 : decode cX13_least 10 = .ok (.lload_n 2, 1) := by decide +kernel
theorem dX13_least_11 : decode cX13_least 11 = .ok (.lreturn, 1) := by decide +kernel
theorem dX13_most_0 : decode cX13_most 0 = .ok (.lload_n 0, 1) := by decide +kernel
theorem dX13_most_1 : decode cX13_most 1 = .ok (.lload_n 2, 1) := by decide +kernel
theorem dX13_most_2 : decode cX13_most 2 = .ok (.lcmp, 1) := by decide +kernel
theorem dX13_most_3 : decode cX13_most 3 = .ok (.ifCond .le 7, 3) := by decide +kernel
theorem dX13_most_6 : decode cX13_most 6 = .ok (.lload_n 0, 1) := by decide +kernel
theorem dX13_most_7 : decode cX13_most 7 = .ok (.goto 4, 3) := by decide +kernel
theorem dX13_most_10 : decode cX13_most 10 = .ok (.lload_n 2, 1) := by decide +kernel
theorem dX13_most_11 : decode cX13_most 11 = .ok (.lreturn, 1) := by decide +kernel
set_option maxRecDepth 20000 in
theorem ggX13_isMeeting_X13_cornerX : GoodIn wsX13_isMeeting wsX13_cornerX := goodIn_r _ [5, 6, 7, 19, 20, 21, 22, 23, 24, 25, 26, 27, 28, 29, 30, 31, 32, 33, 34, 35, 36, 37, 38, 39, 40, 41, 42, 43, 44, 45, 46, 47, 48, 49, 50, 51, 52, 53, 54, 55, 56, 57, 58, 59, 60, 61, 62, 63, 64, 65, 66, 67, 68, 69, 70, 71, 72, 73, 74, 75, 76, 77, 78, 79, 80, 81, 82, 83, 84, 85, 86, 87, 88, 89] (by decide +kernel) (by decide +kernel)
set_option maxRecDepth 20000 in
theorem gX13_isMeeting_X13_cornerX : GoodIn wsX13_isMeeting (wsV RX13 176 RX13 yX13_cornerX wsX13_cornerX) := goodIn_app (goodIn_of _ (by decide +kernel)) ggX13_isMeeting_X13_cornerX
set_option maxRecDepth 20000 in
theorem ggX13_isMeeting_X13_least : GoodIn wsX13_isMeeting wsX13_least := goodIn_r _ [10] (by decide +kernel) (by decide +kernel)
set_option maxRecDepth 20000 in
theorem ggX13_isMeeting_X13_most : GoodIn wsX13_isMeeting wsX13_most := goodIn_r _ [13] (by decide +kernel) (by decide +kernel)
set_option maxRecDepth 20000 in
theorem ggX13_isMeeting_X13_cornerY : GoodIn wsX13_isMeeting wsX13_cornerY := goodIn_r _ [17, 18, 7, 19, 20, 21, 22, 23, 24, 25, 26, 27, 28, 29, 30, 31, 32, 33, 34, 35, 36, 37, 38, 39, 40, 41, 42, 43, 44, 45, 46, 47, 48, 49, 50, 51, 52, 53, 54, 55, 56, 57, 58, 59, 60, 61, 62, 63, 64, 65, 66, 67, 68, 69, 70, 71, 72, 73, 74, 75, 76, 77, 78, 79, 80, 81, 82, 83, 84, 85, 86, 87, 88, 89] (by decide +kernel) (by decide +kernel)
set_option maxRecDepth 20000 in
theorem gX13_isMeeting_X13_cornerY : GoodIn wsX13_isMeeting (wsV RX13 187 RX13 yX13_cornerY wsX13_cornerY) := goodIn_app (goodIn_of _ (by decide +kernel)) ggX13_isMeeting_X13_cornerY
theorem dX13_isMeeting_0 : decode cX13_isMeeting 0 = .ok (.aload_n 0, 1) := by decide +kernel
theorem dX13_isMeeting_1 : decode cX13_isMeeting 1 = .ok (.iload_n 1, 1) := by decide +kernel
theorem dX13_isMeeting_2 : decode cX13_isMeeting 2 = .ok (.iload_n 2, 1) := by decide +kernel
theorem dX13_isMeeting_3 : decode cX13_isMeeting 3 = .ok (.invokevirtual 176, 3) := by decide +kernel
theorem dX13_isMeeting_6 : decode cX13_isMeeting 6 = .ok (.aload_n 0, 1) := by decide +kernel
theorem dX13_isMeeting_7 : decode cX13_isMeeting 7 = .ok (.iload_n 1, 1) := by decide +kernel
theorem dX13_isMeeting_8 : decode cX13_isMeeting 8 = .ok (.iload_n 2, 1) := by decide +kernel
theorem dX13_isMeeting_9 : decode cX13_isMeeting 9 = .ok (.iconst 1, 1) := by decide +kernel
theorem dX13_isMeeting_10 : decode cX13_isMeeting 10 = .ok (.iadd, 1) := by decide +kernel
theorem dX13_isMeeting_11 : decode cX13_isMeeting 11 = .ok (.invokevirtual 176, 3) := by decide +kernel
theorem dX13_isMeeting_14 : decode cX13_isMeeting 14 = .ok (.invokestatic 180, 3) := by decide +kernel
theorem dX13_isMeeting_17 : decode cX13_isMeeting 17 = .ok (.aload_n 0, 1) := by decide +kernel
theorem dX13_isMeeting_18 : decode cX13_isMeeting 18 = .ok (.iload_n 1, 1) := by decide +kernel
theorem dX13_isMeeting_19 : decode cX13_isMeeting 19 = .ok (.iload_n 3, 1) := by decide +kernel
theorem dX13_isMeeting_20 : decode cX13_isMeeting 20 = .ok (.invokevirtual 176, 3) := by decide +kernel
theorem dX13_isMeeting_23 : decode cX13_isMeeting 23 = .ok (.aload_n 0, 1) := by decide +kernel
theorem dX13_isMeeting_24 : decode cX13_isMeeting 24 = .ok (.iload_n 1, 1) := by decide +kernel
theorem dX13_isMeeting_25 : decode cX13_isMeeting 25 = .ok (.iload_n 3, 1) := by decide +kernel
theorem dX13_isMeeting_26 : decode cX13_isMeeting 26 = .ok (.iconst 1, 1) := by decide +kernel
theorem dX13_isMeeting_27 : decode cX13_isMeeting 27 = .ok (.iadd, 1) := by decide +kernel
theorem dX13_isMeeting_28 : decode cX13_isMeeting 28 = .ok (.invokevirtual 176, 3) := by decide +kernel
theorem dX13_isMeeting_31 : decode cX13_isMeeting 31 = .ok (.invokestatic 184, 3) := by decide +kernel
theorem dX13_isMeeting_34 : decode cX13_isMeeting 34 = .ok (.lcmp, 1) := by decide +kernel
theorem dX13_isMeeting_35 : decode cX13_isMeeting 35 = .ok (.ifCond .gt 45, 3) := by decide +kernel
theorem dX13_isMeeting_38 : decode cX13_isMeeting 38 = .ok (.aload_n 0, 1) := by decide +kernel
theorem dX13_isMeeting_39 : decode cX13_isMeeting 39 = .ok (.iload_n 1, 1) := by decide +kernel
theorem dX13_isMeeting_40 : decode cX13_isMeeting 40 = .ok (.iload_n 3, 1) := by decide +kernel
theorem dX13_isMeeting_41 : decode cX13_isMeeting 41 = .ok (.invokevirtual 176, 3) := by decide +kernel
theorem dX13_isMeeting_44 : decode cX13_isMeeting 44 = .ok (.aload_n 0, 1) := by decide +kernel
theorem dX13_isMeeting_45 : decode cX13_isMeeting 45 = .ok (.iload_n 1, 1) := by decide +kernel
theorem dX13_isMeeting_46 : decode cX13_isMeeting 46 = .ok (.iload_n 3, 1) := by decide +kernel
theorem dX13_isMeeting_47 : decode cX13_isMeeting 47 = .ok (.iconst 1, 1) := by decide +kernel
theorem dX13_isMeeting_48 : decode cX13_isMeeting 48 = .ok (.iadd, 1) := by decide +kernel
theorem dX13_isMeeting_49 : decode cX13_isMeeting 49 = .ok (.invokevirtual 176, 3) := by decide +kernel
theorem dX13_isMeeting_52 : decode cX13_isMeeting 52 = .ok (.invokestatic 180, 3) := by decide +kernel
theorem dX13_isMeeting_55 : decode cX13_isMeeting 55 = .ok (.aload_n 0, 1) := by decide +kernel
theorem dX13_isMeeting_56 : decode cX13_isMeeting 56 = .ok (.iload_n 1, 1) := by decide +kernel
theorem dX13_isMeeting_57 : decode cX13_isMeeting 57 = .ok (.iload_n 2, 1) := by decide +kernel
theorem dX13_isMeeting_58 : decode cX13_isMeeting 58 = .ok (.invokevirtual 176, 3) := by decide +kernel
theorem dX13_isMeeting_61 : decode cX13_isMeeting 61 = .ok (.aload_n 0, 1) := by decide +kernel
theorem dX13_isMeeting_62 : decode cX13_isMeeting 62 = .ok (.iload_n 1, 1) := by decide +kernel
theorem dX13_isMeeting_63 : decode cX13_isMeeting 63 = .ok (.iload_n 2, 1) := by decide +kernel
theorem dX13_isMeeting_64 : decode cX13_isMeeting 64 = .ok (.iconst 1, 1) := by decide +kernel
theorem dX13_isMeeting_65 : decode cX13_isMeeting 65 = .ok (.iadd, 1) := by decide +kernel
theorem dX13_isMeeting_66 : decode cX13_isMeeting 66 = .ok (.invokevirtual 176, 3) := by decide +kernel
theorem dX13_isMeeting_69 : decode cX13_isMeeting 69 = .ok (.invokestatic 184, 3) := by decide +kernel
theorem dX13_isMeeting_72 : decode cX13_isMeeting 72 = .ok (.lcmp, 1) := by decide +kernel
theorem dX13_isMeeting_73 : decode cX13_isMeeting 73 = .ok (.ifCond .gt 7, 3) := by decide +kernel
theorem dX13_isMeeting_76 : decode cX13_isMeeting 76 = .ok (.iconst 1, 1) := by decide +kernel
theorem dX13_isMeeting_77 : decode cX13_isMeeting 77 = .ok (.goto 4, 3) := by decide +kernel
theorem dX13_isMeeting_80 : decode cX13_isMeeting 80 = .ok (.iconst 0, 1) := by decide +kernel
theorem dX13_isMeeting_81 : decode cX13_isMeeting 81 = .ok (.istore 4, 2) := by decide +kernel
theorem dX13_isMeeting_83 : decode cX13_isMeeting 83 = .ok (.aload_n 0, 1) := by decide +kernel
theorem dX13_isMeeting_84 : decode cX13_isMeeting 84 = .ok (.iload_n 1, 1) := by decide +kernel
theorem dX13_isMeeting_85 : decode cX13_isMeeting 85 = .ok (.iload_n 2, 1) := by decide +kernel
theorem dX13_isMeeting_86 : decode cX13_isMeeting 86 = .ok (.invokevirtual 187, 3) := by decide +kernel
theorem dX13_isMeeting_89 : decode cX13_isMeeting 89 = .ok (.aload_n 0, 1) := by decide +kernel
theorem dX13_isMeeting_90 : decode cX13_isMeeting 90 = .ok (.iload_n 1, 1) := by decide +kernel
theorem dX13_isMeeting_91 : decode cX13_isMeeting 91 = .ok (.iload_n 2, 1) := by decide +kernel
theorem dX13_isMeeting_92 : decode cX13_isMeeting 92 = .ok (.iconst 1, 1) := by decide +kernel
theorem dX13_isMeeting_93 : decode cX13_isMeeting 93 = .ok (.iadd, 1) := by decide +kernel
theorem dX13_isMeeting_94 : decode cX13_isMeeting 94 = .ok (.invokevirtual 187, 3) := by decide +kernel
theorem dX13_isMeeting_97 : decode cX13_isMeeting 97 = .ok (.invokestatic 180, 3) := by decide +kernel
theorem dX13_isMeeting_100 : decode cX13_isMeeting 100 = .ok (.aload_n 0, 1) := by decide +kernel
theorem dX13_isMeeting_101 : decode cX13_isMeeting 101 = .ok (.iload_n 1, 1) := by decide +kernel
theorem dX13_isMeeting_102 : decode cX13_isMeeting 102 = .ok (.iload_n 3, 1) := by decide +kernel
theorem dX13_isMeeting_103 : decode cX13_isMeeting 103 = .ok (.invokevirtual 187, 3) := by decide +kernel
theorem dX13_isMeeting_106 : decode cX13_isMeeting 106 = .ok (.aload_n 0, 1) := by decide +kernel
theorem dX13_isMeeting_107 : decode cX13_isMeeting 107 = .ok (.iload_n 1, 1) := by decide +kernel
theorem dX13_isMeeting_108 : decode cX13_isMeeting 108 = .ok (.iload_n 3, 1) := by decide +kernel
theorem dX13_isMeeting_109 : decode cX13_isMeeting 109 = .ok (.iconst 1, 1) := by decide +kernel
theorem dX13_isMeeting_110 : decode cX13_isMeeting 110 = .ok (.iadd, 1) := by decide +kernel
theorem dX13_isMeeting_111 : decode cX13_isMeeting 111 = .ok (.invokevirtual 187, 3) := by decide +kernel
theorem dX13_isMeeting_114 : decode cX13_isMeeting 114 = .ok (.invokestatic 184, 3) := by decide +kernel
theorem dX13_isMeeting_117 : decode cX13_isMeeting 117 = .ok (.lcmp, 1) := by decide +kernel
theorem dX13_isMeeting_118 : decode cX13_isMeeting 118 = .ok (.ifCond .gt 45, 3) := by decide +kernel
theorem dX13_isMeeting_121 : decode cX13_isMeeting 121 = .ok (.aload_n 0, 1) := by decide +kernel
theorem dX13_isMeeting_122 : decode cX13_isMeeting 122 = .ok (.iload_n 1, 1) := by decide +kernel
theorem dX13_isMeeting_123 : decode cX13_isMeeting 123 = .ok (.iload_n 3, 1) := by decide +kernel
theorem dX13_isMeeting_124 : decode cX13_isMeeting 124 = .ok (.invokevirtual 187, 3) := by decide +kernel
theorem dX13_isMeeting_127 : decode cX13_isMeeting 127 = .ok (.aload_n 0, 1) := by decide +kernel
theorem dX13_isMeeting_128 : decode cX13_isMeeting 128 = .ok (.iload_n 1, 1) := by decide +kernel
theorem dX13_isMeeting_129 : decode cX13_isMeeting 129 = .ok (.iload_n 3, 1) := by decide +kernel
theorem dX13_isMeeting_130 : decode cX13_isMeeting 130 = .ok (.iconst 1, 1) := by decide +kernel
theorem dX13_isMeeting_131 : decode cX13_isMeeting 131 = .ok (.iadd, 1) := by decide +kernel
theorem dX13_isMeeting_132 : decode cX13_isMeeting 132 = .ok (.invokevirtual 187, 3) := by decide +kernel
theorem dX13_isMeeting_135 : decode cX13_isMeeting 135 = .ok (.invokestatic 180, 3) := by decide +kernel
theorem dX13_isMeeting_138 : decode cX13_isMeeting 138 = .ok (.aload_n 0, 1) := by decide +kernel
theorem dX13_isMeeting_139 : decode cX13_isMeeting 139 = .ok (.iload_n 1, 1) := by decide +kernel
theorem dX13_isMeeting_140 : decode cX13_isMeeting 140 = .ok (.iload_n 2, 1) := by decide +kernel
theorem dX13_isMeeting_141 : decode cX13_isMeeting 141 = .ok (.invokevirtual 187, 3) := by decide +kernel
theorem dX13_isMeeting_144 : decode cX13_isMeeting 144 = .ok (.aload_n 0, 1) := by decide +kernel
theorem dX13_isMeeting_145 : decode cX13_isMeeting 145 = .ok (.iload_n 1, 1) := by decide +kernel
theorem dX13_isMeeting_146 : decode cX13_isMeeting 146 = .ok (.iload_n 2, 1) := by decide +kernel
theorem dX13_isMeeting_147 : decode cX13_isMeeting 147 = .ok (.iconst 1, 1) := by decide +kernel
theorem dX13_isMeeting_148 : decode cX13_isMeeting 148 = .ok (.iadd, 1) := by decide +kernel
theorem dX13_isMeeting_149 : decode cX13_isMeeting 149 = .ok (.invokevirtual 187, 3) := by decide +kernel
theorem dX13_isMeeting_152 : decode cX13_isMeeting 152 = .ok (.invokestatic 184, 3) := by decide +kernel
theorem dX13_isMeeting_155 : decode cX13_isMeeting 155 = .ok (.lcmp, 1) := by decide +kernel
theorem dX13_isMeeting_156 : decode cX13_isMeeting 156 = .ok (.ifCond .gt 7, 3) := by decide +kernel
theorem dX13_isMeeting_159 : decode cX13_isMeeting 159 = .ok (.iconst 1, 1) := by decide +kernel
theorem dX13_isMeeting_160 : decode cX13_isMeeting 160 = .ok (.goto 4, 3) := by decide +kernel
theorem dX13_isMeeting_163 : decode cX13_isMeeting 163 = .ok (.iconst 0, 1) := by decide +kernel
theorem dX13_isMeeting_164 : decode cX13_isMeeting 164 = .ok (.istore 5, 2) := by decide +kernel
theorem dX13_isMeeting_166 : decode cX13_isMeeting 166 = .ok (.iload 4, 2) := by decide +kernel
theorem dX13_isMeeting_168 : decode cX13_isMeeting 168 = .ok (.ifCond .eq 12, 3) := by decide +kernel
theorem dX13_isMeeting_171 : decode cX13_isMeeting 171 = .ok (.iload 5, 2) := by decide +kernel
theorem dX13_isMeeting_173 : decode cX13_isMeeting 173 = .ok (.ifCond .eq 7, 3) := by decide +kernel
theorem dX13_isMeeting_176 : decode cX13_isMeeting 176 = .ok (.iconst 1, 1) := by decide +kernel
theorem dX13_isMeeting_177 : decode cX13_isMeeting 177 = .ok (.goto 4, 3) := by decide +kernel
theorem dX13_isMeeting_180 : decode cX13_isMeeting 180 = .ok (.iconst 0, 1) := by decide +kernel
theorem dX13_isMeeting_181 : decode cX13_isMeeting 181 = .ok (.ireturn, 1) := by decide +kernel
set_option maxRecDepth 20000 in
theorem ggX13_isRight_X13_cornerX : GoodIn wsX13_isRight wsX13_cornerX := goodIn_r _ [6, 7, 1, 23, 24, 25, 26, 27, 28, 29, 30, 31, 32, 33, 34, 35, 36, 37, 38, 39, 40, 41, 42, 43, 44, 45, 46, 47, 48, 49, 50, 51, 52, 53, 54, 55, 56, 57, 58, 59, 60, 61, 62, 63, 64, 65, 66, 67, 68, 69, 70, 71, 72, 73, 74, 75, 76, 77, 78, 79, 80, 81, 82, 83, 84, 85, 86, 87, 88, 89, 90, 91, 92, 93] (by decide +kernel) (by decide +kernel)
set_option maxRecDepth 20000 in
theorem gX13_isRight_X13_cornerX : GoodIn wsX13_isRight (wsV RX13 176 RX13 yX13_cornerX wsX13_cornerX) := goodIn_app (goodIn_of _ (by decide +kernel)) ggX13_isRight_X13_cornerX
set_option maxRecDepth 20000 in
theorem ggX13_isRight_X13_cornerY : GoodIn wsX13_isRight wsX13_cornerY := goodIn_r _ [11, 12, 1, 23, 24, 25, 26, 27, 28, 29, 30, 31, 32, 33, 34, 35, 36, 37, 38, 39, 40, 41, 42, 43, 44, 45, 46, 47, 48, 49, 50, 51, 52, 53, 54, 55, 56, 57, 58, 59, 60, 61, 62, 63, 64, 65, 66, 67, 68, 69, 70, 71, 72, 73, 74, 75, 76, 77, 78, 79, 80, 81, 82, 83, 84, 85, 86, 87, 88, 89, 90, 91, 92, 93] (by decide +kernel) (by decide +kernel)
set_option maxRecDepth 20000 in
theorem gX13_isRight_X13_cornerY : GoodIn wsX13_isRight (wsV RX13 187 RX13 yX13_cornerY wsX13_cornerY) := goodIn_app (goodIn_of _ (by decide +kernel)) ggX13_isRight_X13_cornerY
set_option maxRecDepth 20000 in
theorem ggX13_isRight_X13_isMeeting : GoodIn wsX13_isRight wsX13_isMeeting := goodIn_r _ [16, 2, 3, 4, 5, 6, 7, 1, 17, 18, 19, 20, 21, 22, 8, 9, 10, 11, 12, 23, 24, 25, 26, 27, 28, 29, 30, 31, 32, 33, 34, 35, 36, 37, 38, 39, 40, 41, 42, 43, 44, 45, 46, 47, 48, 49, 50, 51, 52, 53, 54, 55, 56, 57, 58, 59, 60, 61, 62, 63, 64, 65, 66, 67, 68, 69, 70, 71, 72, 73, 74, 75, 76, 77, 78, 79, 80, 81, 82, 83, 84, 85, 86, 87, 88, 89, 90, 91, 92, 93] (by decide +kernel) (by decide +kernel)
set_option maxRecDepth 20000 in
theorem gX13_isRight_X13_isMeeting : GoodIn wsX13_isRight (wsV RX13 190 RX13 yX13_isMeeting wsX13_isMeeting) := goodIn_app (goodIn_of _ (by decide +kernel)) ggX13_isRight_X13_isMeeting
theorem dX13_isRight_0 : decode cX13_isRight 0 = .ok (.aload_n 0, 1) := by decide +kernel
theorem dX13_isRight_1 : decode cX13_isRight 1 = .ok (.getfield 20, 3) := by decide +kernel
theorem dX13_isRight_4 : decode cX13_isRight 4 = .ok (.iload_n 1, 1) := by decide +kernel
theorem dX13_isRight_5 : decode cX13_isRight 5 = .ok (.iaload, 1) := by decide +kernel
theorem dX13_isRight_6 : decode cX13_isRight 6 = .ok (.istore_n 2, 1) := by decide +kernel
theorem dX13_isRight_7 : decode cX13_isRight 7 = .ok (.iload_n 2, 1) := by decide +kernel
theorem dX13_isRight_8 : decode cX13_isRight 8 = .ok (.iconst 4, 1) := by decide +kernel
theorem dX13_isRight_9 : decode cX13_isRight 9 = .ok (.if_icmp .ge 5, 3) := by decide +kernel
theorem dX13_isRight_12 : decode cX13_isRight 12 = .ok (.iconst 0, 1) := by decide +kernel
theorem dX13_isRight_13 : decode cX13_isRight 13 = .ok (.ireturn, 1) := by decide +kernel
theorem dX13_isRight_14 : decode cX13_isRight 14 = .ok (.aload_n 0, 1) := by decide +kernel
theorem dX13_isRight_15 : decode cX13_isRight 15 = .ok (.iload_n 1, 1) := by decide +kernel
theorem dX13_isRight_16 : decode cX13_isRight 16 = .ok (.iload_n 2, 1) := by decide +kernel
theorem dX13_isRight_17 : decode cX13_isRight 17 = .ok (.iconst 1, 1) := by decide +kernel
theorem dX13_isRight_18 : decode cX13_isRight 18 = .ok (.isub, 1) := by decide +kernel
theorem dX13_isRight_19 : decode cX13_isRight 19 = .ok (.invokevirtual 176, 3) := by decide +kernel
theorem dX13_isRight_22 : decode cX13_isRight 22 = .ok (.aload_n 0, 1) := by decide +kernel
theorem dX13_isRight_23 : decode cX13_isRight 23 = .ok (.iload_n 1, 1) := by decide +kernel
theorem dX13_isRight_24 : decode cX13_isRight 24 = .ok (.iconst 0, 1) := by decide +kernel
theorem dX13_isRight_25 : decode cX13_isRight 25 = .ok (.invokevirtual 176, 3) := by decide +kernel
theorem dX13_isRight_28 : decode cX13_isRight 28 = .ok (.lcmp, 1) := by decide +kernel
theorem dX13_isRight_29 : decode cX13_isRight 29 = .ok (.ifCond .ne 7, 3) := by decide +kernel
theorem dX13_isRight_32 : decode cX13_isRight 32 = .ok (.iconst 1, 1) := by decide +kernel
theorem dX13_isRight_33 : decode cX13_isRight 33 = .ok (.goto 4, 3) := by decide +kernel
theorem dX13_isRight_36 : decode cX13_isRight 36 = .ok (.iconst 0, 1) := by decide +kernel
theorem dX13_isRight_37 : decode cX13_isRight 37 = .ok (.aload_n 0, 1) := by decide +kernel
theorem dX13_isRight_38 : decode cX13_isRight 38 = .ok (.iload_n 1, 1) := by decide +kernel
theorem dX13_isRight_39 : decode cX13_isRight 39 = .ok (.iload_n 2, 1) := by decide +kernel
theorem dX13_isRight_40 : decode cX13_isRight 40 = .ok (.iconst 1, 1) := by decide +kernel
theorem dX13_isRight_41 : decode cX13_isRight 41 = .ok (.isub, 1) := by decide +kernel
theorem dX13_isRight_42 : decode cX13_isRight 42 = .ok (.invokevirtual 187, 3) := by decide +kernel
theorem dX13_isRight_45 : decode cX13_isRight 45 = .ok (.aload_n 0, 1) := by decide +kernel
theorem dX13_isRight_46 : decode cX13_isRight 46 = .ok (.iload_n 1, 1) := by decide +kernel
theorem dX13_isRight_47 : decode cX13_isRight 47 = .ok (.iconst 0, 1) := by decide +kernel
theorem dX13_isRight_48 : decode cX13_isRight 48 = .ok (.invokevirtual 187, 3) := by decide +kernel
theorem dX13_isRight_51 : decode cX13_isRight 51 = .ok (.lcmp, 1) := by decide +kernel
theorem dX13_isRight_52 : decode cX13_isRight 52 = .ok (.ifCond .ne 7, 3) := by decide +kernel
theorem dX13_isRight_55 : decode cX13_isRight 55 = .ok (.iconst 1, 1) := by decide +kernel
theorem dX13_isRight_56 : decode cX13_isRight 56 = .ok (.goto 4, 3) := by decide +kernel
theorem dX13_isRight_59 : decode cX13_isRight 59 = .ok (.iconst 0, 1) := by decide +kernel
theorem dX13_isRight_60 : decode cX13_isRight 60 = .ok (.if_icmp .eq 7, 3) := by decide +kernel
theorem dX13_isRight_63 : decode cX13_isRight 63 = .ok (.iconst 1, 1) := by decide +kernel
theorem dX13_isRight_64 : decode cX13_isRight 64 = .ok (.goto 4, 3) := by decide +kernel
theorem dX13_isRight_67 : decode cX13_isRight 67 = .ok (.iconst 0, 1) := by decide +kernel
theorem dX13_isRight_68 : decode cX13_isRight 68 = .ok (.istore_n 3, 1) := by decide +kernel
theorem dX13_isRight_69 : decode cX13_isRight 69 = .ok (.iconst 0, 1) := by decide +kernel
theorem dX13_isRight_70 : decode cX13_isRight 70 = .ok (.istore 4, 2) := by decide +kernel
theorem dX13_isRight_72 : decode cX13_isRight 72 = .ok (.iload 4, 2) := by decide +kernel
theorem dX13_isRight_74 : decode cX13_isRight 74 = .ok (.iload_n 2, 1) := by decide +kernel
theorem dX13_isRight_75 : decode cX13_isRight 75 = .ok (.if_icmp .ge 131, 3) := by decide +kernel
theorem dX13_isRight_78 : decode cX13_isRight 78 = .ok (.iload_n 3, 1) := by decide +kernel
theorem dX13_isRight_79 : decode cX13_isRight 79 = .ok (.ifCond .eq 127, 3) := by decide +kernel
theorem dX13_isRight_82 : decode cX13_isRight 82 = .ok (.aload_n 0, 1) := by decide +kernel
theorem dX13_isRight_83 : decode cX13_isRight 83 = .ok (.iload_n 1, 1) := by decide +kernel
theorem dX13_isRight_84 : decode cX13_isRight 84 = .ok (.iload 4, 2) := by decide +kernel
theorem dX13_isRight_86 : decode cX13_isRight 86 = .ok (.invokevirtual 187, 3) := by decide +kernel
theorem dX13_isRight_89 : decode cX13_isRight 89 = .ok (.aload_n 0, 1) := by decide +kernel
theorem dX13_isRight_90 : decode cX13_isRight 90 = .ok (.iload_n 1, 1) := by decide +kernel
theorem dX13_isRight_91 : decode cX13_isRight 91 = .ok (.iload 4, 2) := by decide +kernel
theorem dX13_isRight_93 : decode cX13_isRight 93 = .ok (.iconst 1, 1) := by decide +kernel
theorem dX13_isRight_94 : decode cX13_isRight 94 = .ok (.iadd, 1) := by decide +kernel
theorem dX13_isRight_95 : decode cX13_isRight 95 = .ok (.invokevirtual 187, 3) := by decide +kernel
theorem dX13_isRight_98 : decode cX13_isRight 98 = .ok (.lcmp, 1) := by decide +kernel
theorem dX13_isRight_99 : decode cX13_isRight 99 = .ok (.ifCond .ne 7, 3) := by decide +kernel
theorem dX13_isRight_102 : decode cX13_isRight 102 = .ok (.iconst 1, 1) := by decide +kernel
theorem dX13_isRight_103 : decode cX13_isRight 103 = .ok (.goto 4, 3) := by decide +kernel
theorem dX13_isRight_106 : decode cX13_isRight 106 = .ok (.iconst 0, 1) := by decide +kernel
theorem dX13_isRight_107 : decode cX13_isRight 107 = .ok (.istore 5, 2) := by decide +kernel
theorem dX13_isRight_109 : decode cX13_isRight 109 = .ok (.iload 5, 2) := by decide +kernel
theorem dX13_isRight_111 : decode cX13_isRight 111 = .ok (.aload_n 0, 1) := by decide +kernel
theorem dX13_isRight_112 : decode cX13_isRight 112 = .ok (.iload_n 1, 1) := by decide +kernel
theorem dX13_isRight_113 : decode cX13_isRight 113 = .ok (.iload 4, 2) := by decide +kernel
theorem dX13_isRight_115 : decode cX13_isRight 115 = .ok (.iconst 1, 1) := by decide +kernel
theorem dX13_isRight_116 : decode cX13_isRight 116 = .ok (.iadd, 1) := by decide +kernel
theorem dX13_isRight_117 : decode cX13_isRight 117 = .ok (.invokevirtual 187, 3) := by decide +kernel
theorem dX13_isRight_120 : decode cX13_isRight 120 = .ok (.aload_n 0, 1) := by decide +kernel
theorem dX13_isRight_121 : decode cX13_isRight 121 = .ok (.iload_n 1, 1) := by decide +kernel
theorem dX13_isRight_122 : decode cX13_isRight 122 = .ok (.iload 4, 2) := by decide +kernel
theorem dX13_isRight_124 : decode cX13_isRight 124 = .ok (.iconst 2, 1) := by decide +kernel
theorem dX13_isRight_125 : decode cX13_isRight 125 = .ok (.iadd, 1) := by decide +kernel
theorem dX13_isRight_126 : decode cX13_isRight 126 = .ok (.invokevirtual 187, 3) := by decide +kernel
theorem dX13_isRight_129 : decode cX13_isRight 129 = .ok (.lcmp, 1) := by decide +kernel
theorem dX13_isRight_130 : decode cX13_isRight 130 = .ok (.ifCond .ne 7, 3) := by decide +kernel
theorem dX13_isRight_133 : decode cX13_isRight 133 = .ok (.iconst 1, 1) := by decide +kernel
theorem dX13_isRight_134 : decode cX13_isRight 134 = .ok (.goto 4, 3) := by decide +kernel
theorem dX13_isRight_137 : decode cX13_isRight 137 = .ok (.iconst 0, 1) := by decide +kernel
theorem dX13_isRight_138 : decode cX13_isRight 138 = .ok (.if_icmp .eq 7, 3) := by decide +kernel
theorem dX13_isRight_141 : decode cX13_isRight 141 = .ok (.iconst 1, 1) := by decide +kernel
theorem dX13_isRight_142 : decode cX13_isRight 142 = .ok (.goto 4, 3) := by decide +kernel
theorem dX13_isRight_145 : decode cX13_isRight 145 = .ok (.iconst 0, 1) := by decide +kernel
theorem dX13_isRight_146 : decode cX13_isRight 146 = .ok (.istore_n 3, 1) := by decide +kernel
theorem dX13_isRight_147 : decode cX13_isRight 147 = .ok (.iload 4, 2) := by decide +kernel
theorem dX13_isRight_149 : decode cX13_isRight 149 = .ok (.iconst 2, 1) := by decide +kernel
theorem dX13_isRight_150 : decode cX13_isRight 150 = .ok (.iadd, 1) := by decide +kernel
theorem dX13_isRight_151 : decode cX13_isRight 151 = .ok (.istore 6, 2) := by decide +kernel
theorem dX13_isRight_153 : decode cX13_isRight 153 = .ok (.iload 6, 2) := by decide +kernel
theorem dX13_isRight_155 : decode cX13_isRight 155 = .ok (.iload_n 2, 1) := by decide +kernel
theorem dX13_isRight_156 : decode cX13_isRight 156 = .ok (.if_icmp .ge 44, 3) := by decide +kernel
theorem dX13_isRight_159 : decode cX13_isRight 159 = .ok (.iload_n 3, 1) := by decide +kernel
theorem dX13_isRight_160 : decode cX13_isRight 160 = .ok (.ifCond .eq 40, 3) := by decide +kernel
theorem dX13_isRight_163 : decode cX13_isRight 163 = .ok (.iload 4, 2) := by decide +kernel
theorem dX13_isRight_165 : decode cX13_isRight 165 = .ok (.ifCond .ne 11, 3) := by decide +kernel
theorem dX13_isRight_168 : decode cX13_isRight 168 = .ok (.iload 6, 2) := by decide +kernel
theorem dX13_isRight_170 : decode cX13_isRight 170 = .ok (.iload_n 2, 1) := by decide +kernel
theorem dX13_isRight_171 : decode cX13_isRight 171 = .ok (.iconst 1, 1) := by decide +kernel
theorem dX13_isRight_172 : decode cX13_isRight 172 = .ok (.isub, 1) := by decide +kernel
theorem dX13_isRight_173 : decode cX13_isRight 173 = .ok (.if_icmp .eq 15, 3) := by decide +kernel
theorem dX13_isRight_176 : decode cX13_isRight 176 = .ok (.aload_n 0, 1) := by decide +kernel
theorem dX13_isRight_177 : decode cX13_isRight 177 = .ok (.iload_n 1, 1) := by decide +kernel
theorem dX13_isRight_178 : decode cX13_isRight 178 = .ok (.iload 4, 2) := by decide +kernel
theorem dX13_isRight_180 : decode cX13_isRight 180 = .ok (.iload 6, 2) := by decide +kernel
theorem dX13_isRight_182 : decode cX13_isRight 182 = .ok (.invokevirtual 190, 3) := by decide +kernel
theorem dX13_isRight_185 : decode cX13_isRight 185 = .ok (.ifCond .ne 7, 3) := by decide +kernel
theorem dX13_isRight_188 : decode cX13_isRight 188 = .ok (.iconst 1, 1) := by decide +kernel
theorem dX13_isRight_189 : decode cX13_isRight 189 = .ok (.goto 4, 3) := by decide +kernel
theorem dX13_isRight_192 : decode cX13_isRight 192 = .ok (.iconst 0, 1) := by decide +kernel
theorem dX13_isRight_193 : decode cX13_isRight 193 = .ok (.istore_n 3, 1) := by decide +kernel
theorem dX13_isRight_194 : decode cX13_isRight 194 = .ok (.iinc 6 1, 3) := by decide +kernel
theorem dX13_isRight_197 : decode cX13_isRight 197 = .ok (.goto (-44), 3) := by decide +kernel
theorem dX13_isRight_200 : decode cX13_isRight 200 = .ok (.iinc 4 1, 3) := by decide +kernel
theorem dX13_isRight_203 : decode cX13_isRight 203 = .ok (.goto (-131), 3) := by decide +kernel
theorem dX13_isRight_206 : decode cX13_isRight 206 = .ok (.iload_n 3, 1) := by decide +kernel
theorem dX13_isRight_207 : decode cX13_isRight 207 = .ok (.ireturn, 1) := by decide +kernel

abbrev mX13_cornerX : sv_M := (cX13_cornerX, 3, yX13_cornerX, wsX13_cornerX, (some .long), { frames := 0, cells := 0, slots := 0, locals := 0 }, [])
abbrev mX13_cornerY : sv_M := (cX13_cornerY, 3, yX13_cornerY, wsX13_cornerY, (some .long), { frames := 0, cells := 0, slots := 0, locals := 0 }, [])
abbrev mX13_least : sv_M := (cX13_least, 4, yX13_least, wsX13_least, (some .long), { frames := 0, cells := 0, slots := 0, locals := 0 }, [])
abbrev mX13_most : sv_M := (cX13_most, 4, yX13_most, wsX13_most, (some .long), { frames := 0, cells := 0, slots := 0, locals := 0 }, [])
theorem v_pq {G : sv_G} {M : sv_M} {P : sv_P} {pc : Nat} {L : List (Nat × Value)} {S : List Value} {h h1 : sv_h} {z z1 ce sl : Nat} {w : Value} {v : Option Value} (hq : v = some w ∧ h1 = h ∧ z1 = z) (k : V G M P pc L (w :: S) h z ce sl) : V G M P pc L (v.toList ++ S) h1 z1 ce sl := by
  obtain ⟨rfl, rfl, rfl⟩ := hq
  exact k
theorem gm_aft_mod {n i : Nat} (h : i < n) : (i + 1) % n = gm_aft n i := by
  unfold gm_aft
  by_cases q : i + 1 < n
  · rw [if_pos q, Nat.mod_eq_of_lt q]
  · rw [if_neg q, show i + 1 = n by omega, Nat.mod_self]
theorem gm_aft_mod2 {n i : Nat} (h : i < n) (hn : 2 ≤ n) : (i + 2) % n = gm_aft n (gm_aft n i) := by
  rw [← gm_aft_mod (gm_aft_lt h), ← gm_aft_mod h, Nat.mod_add_mod]
theorem sv_64l {x y : Int32} : x.toInt64 < y.toInt64 ↔ x < y := by rw [Int64.lt_iff_toInt_lt, Int32.lt_iff_toInt_lt, Int32.toInt_toInt64, Int32.toInt_toInt64]
theorem sv_64e {x y : Int32} : x.toInt64 = y.toInt64 ↔ x = y := sv_32i
theorem sv_16r (p k n : Nat) (hk : k < 100) (h0 : 0 < n) (hn : n ≤ 16) : (16 : Int32) * nI p + (nI k - nI k / nI n * nI n) = nI (16 * p + k % n) := by
  rw [pk_rem (by omega) h0 (by omega), sv_16]
set_option maxHeartbeats 4000000 in
set_option maxRecDepth 100000 in
theorem m_cornerX (G : sv_G) (h : sv_h) (z b p n : Nat) (fs : List Value) (gs : Nat → Int32) (gx gy : Nat → Int64) (X Y : Nat → Int32) (hlen : fs.length = 71) (hm : h (b + 220) = some (.inr (11, fs))) (f_size : fs[7]? = some (.ref (b + 224))) (f_px : fs[8]? = some (.ref (b + 225))) (f_py : fs[9]? = some (.ref (b + 226))) (hgs : ab_I G h (b + 224) 64 gs) (hgx : ab_J G h (b + 225) 1024 gx) (hgy : ab_J G h (b + 226) 1024 gy) (hp64 : p < 64) (hsn : gs p = nI n) (hn16 : n ≤ 16) (hX : ∀ i, i < n → gx (16 * p + i) = (X i).toInt64) (hY : ∀ i, i < n → gy (16 * p + i) = (Y i).toInt64) (k : Nat) (hk : k < 100) (h0 : 0 < n) : CT G mX13_cornerX [.ref (b + 220), .int (nI p), .int (nI k)] h z (fun v h1 z1 => v = some (.long (X (k % n)).toInt64) ∧ h1 = h ∧ z1 = z) := by
  refine CT.of (by decide +kernel) rfl rfl (Nat.le_of_ble_eq_true rfl) ?_
  refine v_aload_n dX13_cornerX_0 rfl 0 rfl ?_
  refine v_getf 8 (ci := 11) (C := RX13) (T := TX13) (N := 71) rfl iwX13_cornerX_X13 (Nat.le_of_ble_eq_true rfl) (by decide +kernel) dX13_cornerX_1 (by repeat (first | (with_reducible refine sv_us.trans ?_; exact rfl) | with_reducible assumption | with_reducible refine (sv_un (by omega)).trans ?_)) (by repeat (first | with_reducible assumption | (with_reducible refine (sv_ls (by first | omega | (simp only [List.length_set]; omega))).trans ?_; exact rfl) | with_reducible refine (List.getElem?_set_ne (by decide)).trans ?_)) ?_
  refine v_bipush (v := 16) dX13_cornerX_4 (by decide) ?_
  refine v_iload_n dX13_cornerX_6 rfl 1 rfl ?_
  refine v_imul dX13_cornerX_7 ?_
  refine v_iload_n dX13_cornerX_8 rfl 2 rfl ?_
  refine v_aload_n dX13_cornerX_9 rfl 0 rfl ?_
  refine v_getf 7 (ci := 11) (C := RX13) (T := TX13) (N := 71) rfl iwX13_cornerX_X13 (Nat.le_of_ble_eq_true rfl) (by decide +kernel) dX13_cornerX_10 (by repeat (first | (with_reducible refine sv_us.trans ?_; exact rfl) | with_reducible assumption | with_reducible refine (sv_un (by omega)).trans ?_)) (by repeat (first | with_reducible assumption | (with_reducible refine (sv_ls (by first | omega | (simp only [List.length_set]; omega))).trans ?_; exact rfl) | with_reducible refine (List.getElem?_set_ne (by decide)).trans ?_)) ?_
  refine v_iload_n dX13_cornerX_13 rfl 1 rfl ?_
  refine v_ialdS (v := nI n) dX13_cornerX_14 (by repeat (first | (with_reducible refine sv_us.trans ?_; exact rfl) | with_reducible assumption | with_reducible refine (sv_un (by omega)).trans ?_)) (vp_in_nI hp64 (by omega)) (by rw [nI_clamp (by omega)]; exact hsn) ?_
  refine v_irem dX13_cornerX_15 (nI_ne0 h0 (by omega)) ?_
  refine v_iadd dX13_cornerX_16 ?_
  refine v_laldS (v := (X (k % n)).toInt64) dX13_cornerX_17 (by repeat (first | (with_reducible refine sv_us.trans ?_; exact rfl) | with_reducible assumption | with_reducible refine (sv_un (by omega)).trans ?_)) (by rw [sv_16r p k n hk h0 hn16]; exact vp_in_nI (by have := Nat.mod_lt k h0; omega) (by omega)) (by rw [sv_16r p k n hk h0 hn16, nI_clamp (by have := Nat.mod_lt k h0; omega)]; exact hX _ (Nat.mod_lt k h0)) ?_
  exact v_lret rfl dX13_cornerX_18 (Nat.le_of_ble_eq_true rfl) (Nat.le_of_ble_eq_true rfl) ⟨rfl, rfl, rfl⟩

theorem m_cornerX0 (G : sv_G) (h : sv_h) (z b p n : Nat) (fs : List Value) (gs : Nat → Int32) (gx gy : Nat → Int64) (X Y : Nat → Int32) (hlen : fs.length = 71) (hm : h (b + 220) = some (.inr (11, fs))) (f_size : fs[7]? = some (.ref (b + 224))) (f_px : fs[8]? = some (.ref (b + 225))) (f_py : fs[9]? = some (.ref (b + 226))) (hgs : ab_I G h (b + 224) 64 gs) (hgx : ab_J G h (b + 225) 1024 gx) (hgy : ab_J G h (b + 226) 1024 gy) (hp64 : p < 64) (hsn : gs p = nI n) (hn16 : n ≤ 16) (hX : ∀ i, i < n → gx (16 * p + i) = (X i).toInt64) (hY : ∀ i, i < n → gy (16 * p + i) = (Y i).toInt64) (i : Nat) (hi : i < n) : CT G mX13_cornerX [.ref (b + 220), .int (nI p), .int (nI i)] h z (fun v h1 z1 => v = some (.long (X i).toInt64) ∧ h1 = h ∧ z1 = z) := by
  have e := m_cornerX G h z b p n fs gs gx gy X Y hlen hm f_size f_px f_py hgs hgx hgy hp64 hsn hn16 hX hY i (by omega) (by omega)
  rw [Nat.mod_eq_of_lt hi] at e
  exact e
theorem m_cornerX1 (G : sv_G) (h : sv_h) (z b p n : Nat) (fs : List Value) (gs : Nat → Int32) (gx gy : Nat → Int64) (X Y : Nat → Int32) (hlen : fs.length = 71) (hm : h (b + 220) = some (.inr (11, fs))) (f_size : fs[7]? = some (.ref (b + 224))) (f_px : fs[8]? = some (.ref (b + 225))) (f_py : fs[9]? = some (.ref (b + 226))) (hgs : ab_I G h (b + 224) 64 gs) (hgx : ab_J G h (b + 225) 1024 gx) (hgy : ab_J G h (b + 226) 1024 gy) (hp64 : p < 64) (hsn : gs p = nI n) (hn16 : n ≤ 16) (hX : ∀ i, i < n → gx (16 * p + i) = (X i).toInt64) (hY : ∀ i, i < n → gy (16 * p + i) = (Y i).toInt64) (i : Nat) (hi : i < n) : CT G mX13_cornerX [.ref (b + 220), .int (nI p), .int (nI i + 1)] h z (fun v h1 z1 => v = some (.long (X (gm_aft n i)).toInt64) ∧ h1 = h ∧ z1 = z) := by
  have e := m_cornerX G h z b p n fs gs gx gy X Y hlen hm f_size f_px f_py hgs hgx hgy hp64 hsn hn16 hX hY (i + 1) (by omega) (by omega)
  rw [gm_aft_mod hi, ← nI_1] at e
  exact e
set_option maxHeartbeats 4000000 in
set_option maxRecDepth 100000 in
theorem m_cornerY (G : sv_G) (h : sv_h) (z b p n : Nat) (fs : List Value) (gs : Nat → Int32) (gx gy : Nat → Int64) (X Y : Nat → Int32) (hlen : fs.length = 71) (hm : h (b + 220) = some (.inr (11, fs))) (f_size : fs[7]? = some (.ref (b + 224))) (f_px : fs[8]? = some (.ref (b + 225))) (f_py : fs[9]? = some (.ref (b + 226))) (hgs : ab_I G h (b + 224) 64 gs) (hgx : ab_J G h (b + 225) 1024 gx) (hgy : ab_J G h (b + 226) 1024 gy) (hp64 : p < 64) (hsn : gs p = nI n) (hn16 : n ≤ 16) (hX : ∀ i, i < n → gx (16 * p + i) = (X i).toInt64) (hY : ∀ i, i < n → gy (16 * p + i) = (Y i).toInt64) (k : Nat) (hk : k < 100) (h0 : 0 < n) : CT G mX13_cornerY [.ref (b + 220), .int (nI p), .int (nI k)] h z (fun v h1 z1 => v = some (.long (Y (k % n)).toInt64) ∧ h1 = h ∧ z1 = z) := by
  refine CT.of (by decide +kernel) rfl rfl (Nat.le_of_ble_eq_true rfl) ?_
  refine v_aload_n dX13_cornerY_0 rfl 0 rfl ?_
  refine v_getf 9 (ci := 11) (C := RX13) (T := TX13) (N := 71) rfl iwX13_cornerY_X13 (Nat.le_of_ble_eq_true rfl) (by decide +kernel) dX13_cornerY_1 (by repeat (first | (with_reducible refine sv_us.trans ?_; exact rfl) | with_reducible assumption | with_reducible refine (sv_un (by omega)).trans ?_)) (by repeat (first | with_reducible assumption | (with_reducible refine (sv_ls (by first | omega | (simp only [List.length_set]; omega))).trans ?_; exact rfl) | with_reducible refine (List.getElem?_set_ne (by decide)).trans ?_)) ?_
  refine v_bipush (v := 16) dX13_cornerY_4 (by decide) ?_
  refine v_iload_n dX13_cornerY_6 rfl 1 rfl ?_
  refine v_imul dX13_cornerY_7 ?_
  refine v_iload_n dX13_cornerY_8 rfl 2 rfl ?_
  refine v_aload_n dX13_cornerY_9 rfl 0 rfl ?_
  refine v_getf 7 (ci := 11) (C := RX13) (T := TX13) (N := 71) rfl iwX13_cornerY_X13 (Nat.le_of_ble_eq_true rfl) (by decide +kernel) dX13_cornerY_10 (by repeat (first | (with_reducible refine sv_us.trans ?_; exact rfl) | with_reducible assumption | with_reducible refine (sv_un (by omega)).trans ?_)) (by repeat (first | with_reducible assumption | (with_reducible refine (sv_ls (by first | omega | (simp only [List.length_set]; omega))).trans ?_; exact rfl) | with_reducible refine (List.getElem?_set_ne (by decide)).trans ?_)) ?_
  refine v_iload_n dX13_cornerY_13 rfl 1 rfl ?_
  refine v_ialdS (v := nI n) dX13_cornerY_14 (by repeat (first | (with_reducible refine sv_us.trans ?_; exact rfl) | with_reducible assumption | with_reducible refine (sv_un (by omega)).trans ?_)) (vp_in_nI hp64 (by omega)) (by rw [nI_clamp (by omega)]; exact hsn) ?_
  refine v_irem dX13_cornerY_15 (nI_ne0 h0 (by omega)) ?_
  refine v_iadd dX13_cornerY_16 ?_
  refine v_laldS (v := (Y (k % n)).toInt64) dX13_cornerY_17 (by repeat (first | (with_reducible refine sv_us.trans ?_; exact rfl) | with_reducible assumption | with_reducible refine (sv_un (by omega)).trans ?_)) (by rw [sv_16r p k n hk h0 hn16]; exact vp_in_nI (by have := Nat.mod_lt k h0; omega) (by omega)) (by rw [sv_16r p k n hk h0 hn16, nI_clamp (by have := Nat.mod_lt k h0; omega)]; exact hY _ (Nat.mod_lt k h0)) ?_
  exact v_lret rfl dX13_cornerY_18 (Nat.le_of_ble_eq_true rfl) (Nat.le_of_ble_eq_true rfl) ⟨rfl, rfl, rfl⟩

theorem m_cornerY0 (G : sv_G) (h : sv_h) (z b p n : Nat) (fs : List Value) (gs : Nat → Int32) (gx gy : Nat → Int64) (X Y : Nat → Int32) (hlen : fs.length = 71) (hm : h (b + 220) = some (.inr (11, fs))) (f_size : fs[7]? = some (.ref (b + 224))) (f_px : fs[8]? = some (.ref (b + 225))) (f_py : fs[9]? = some (.ref (b + 226))) (hgs : ab_I G h (b + 224) 64 gs) (hgx : ab_J G h (b + 225) 1024 gx) (hgy : ab_J G h (b + 226) 1024 gy) (hp64 : p < 64) (hsn : gs p = nI n) (hn16 : n ≤ 16) (hX : ∀ i, i < n → gx (16 * p + i) = (X i).toInt64) (hY : ∀ i, i < n → gy (16 * p + i) = (Y i).toInt64) (i : Nat) (hi : i < n) : CT G mX13_cornerY [.ref (b + 220), .int (nI p), .int (nI i)] h z (fun v h1 z1 => v = some (.long (Y i).toInt64) ∧ h1 = h ∧ z1 = z) := by
  have e := m_cornerY G h z b p n fs gs gx gy X Y hlen hm f_size f_px f_py hgs hgx hgy hp64 hsn hn16 hX hY i (by omega) (by omega)
  rw [Nat.mod_eq_of_lt hi] at e
  exact e
theorem m_cornerY1 (G : sv_G) (h : sv_h) (z b p n : Nat) (fs : List Value) (gs : Nat → Int32) (gx gy : Nat → Int64) (X Y : Nat → Int32) (hlen : fs.length = 71) (hm : h (b + 220) = some (.inr (11, fs))) (f_size : fs[7]? = some (.ref (b + 224))) (f_px : fs[8]? = some (.ref (b + 225))) (f_py : fs[9]? = some (.ref (b + 226))) (hgs : ab_I G h (b + 224) 64 gs) (hgx : ab_J G h (b + 225) 1024 gx) (hgy : ab_J G h (b + 226) 1024 gy) (hp64 : p < 64) (hsn : gs p = nI n) (hn16 : n ≤ 16) (hX : ∀ i, i < n → gx (16 * p + i) = (X i).toInt64) (hY : ∀ i, i < n → gy (16 * p + i) = (Y i).toInt64) (i : Nat) (hi : i < n) : CT G mX13_cornerY [.ref (b + 220), .int (nI p), .int (nI i + 1)] h z (fun v h1 z1 => v = some (.long (Y (gm_aft n i)).toInt64) ∧ h1 = h ∧ z1 = z) := by
  have e := m_cornerY G h z b p n fs gs gx gy X Y hlen hm f_size f_px f_py hgs hgx hgy hp64 hsn hn16 hX hY (i + 1) (by omega) (by omega)
  rw [gm_aft_mod hi, ← nI_1] at e
  exact e
theorem m_cornerY2 (G : sv_G) (h : sv_h) (z b p n : Nat) (fs : List Value) (gs : Nat → Int32) (gx gy : Nat → Int64) (X Y : Nat → Int32) (hlen : fs.length = 71) (hm : h (b + 220) = some (.inr (11, fs))) (f_size : fs[7]? = some (.ref (b + 224))) (f_px : fs[8]? = some (.ref (b + 225))) (f_py : fs[9]? = some (.ref (b + 226))) (hgs : ab_I G h (b + 224) 64 gs) (hgx : ab_J G h (b + 225) 1024 gx) (hgy : ab_J G h (b + 226) 1024 gy) (hp64 : p < 64) (hsn : gs p = nI n) (hn16 : n ≤ 16) (hX : ∀ i, i < n → gx (16 * p + i) = (X i).toInt64) (hY : ∀ i, i < n → gy (16 * p + i) = (Y i).toInt64) (i : Nat) (hi : i < n) (h2 : 2 ≤ n) : CT G mX13_cornerY [.ref (b + 220), .int (nI p), .int (nI i + 2)] h z (fun v h1 z1 => v = some (.long (Y (gm_aft n (gm_aft n i))).toInt64) ∧ h1 = h ∧ z1 = z) := by
  have e := m_cornerY G h z b p n fs gs gx gy X Y hlen hm f_size f_px f_py hgs hgx hgy hp64 hsn hn16 hX hY (i + 2) (by omega) (by omega)
  rw [gm_aft_mod2 hi h2, ← nI_add] at e
  exact e
theorem sv_gl {x y : Int32} (c : ¬ y.toInt64 ≤ x.toInt64) : x = gm_min x y := by
  rw [Int64.not_le, sv_64l] at c
  rw [gm_min, if_pos (Int32.le_of_lt c)]
theorem sv_gl2 {x y : Int32} (c : y.toInt64 ≤ x.toInt64) : y = gm_min x y := by
  have c2 : ¬ x < y := fun q => Int64.not_le.mpr (sv_64l.mpr q) c
  rw [gm_min]
  by_cases q : x ≤ y
  · rw [if_pos q]
    rw [Int32.lt_iff_toInt_lt] at c2
    rw [Int32.le_iff_toInt_le] at q
    exact Int32.toInt_inj.mp (by omega)
  · rw [if_neg q]
theorem sv_gg {x y : Int32} (c : ¬ x.toInt64 ≤ y.toInt64) : x = gm_max x y := by
  rw [Int64.not_le, sv_64l] at c
  rw [gm_max, if_neg (Int32.not_le.mpr c)]
theorem sv_gg2 {x y : Int32} (c : x.toInt64 ≤ y.toInt64) : y = gm_max x y := by
  have c2 : ¬ y < x := fun q => Int64.not_le.mpr (sv_64l.mpr q) c
  rw [gm_max, if_pos (Int32.not_lt.mp c2)]
set_option maxHeartbeats 4000000 in
set_option maxRecDepth 100000 in
theorem m_least (G : sv_G) (h : sv_h) (z : Nat) (x y : Int32) : CT G mX13_least [.long x.toInt64, .long y.toInt64] h z (fun v h1 z1 => v = some (.long (gm_min x y).toInt64) ∧ h1 = h ∧ z1 = z) := by
  refine CT.of (by decide +kernel) rfl rfl (Nat.le_of_ble_eq_true rfl) ?_
  refine v_lload_n dX13_least_0 rfl 0 rfl ?_
  refine v_lload_n dX13_least_1 rfl 1 rfl ?_
  refine v_lcmp_ge (tgt := 10) dX13_least_2 dX13_least_3 (by decide) (fun c_3 => ?_) (fun c_3 => ?_)
  · refine v_lload_n dX13_least_10 rfl 1 rfl ?_
    exact v_lret rfl dX13_least_11 (Nat.le_of_ble_eq_true rfl) (Nat.le_of_ble_eq_true rfl) ⟨by first | rw [← sv_gl2 c_3] | rw [← sv_gl c_3], rfl, rfl⟩
  · refine v_lload_n dX13_least_6 rfl 0 rfl ?_
    refine v_goto (tgt := 11) dX13_least_7 (by decide) ?_
    exact v_lret rfl dX13_least_11 (Nat.le_of_ble_eq_true rfl) (Nat.le_of_ble_eq_true rfl) ⟨by first | rw [← sv_gl2 c_3] | rw [← sv_gl c_3], rfl, rfl⟩

set_option maxHeartbeats 4000000 in
set_option maxRecDepth 100000 in
theorem m_most (G : sv_G) (h : sv_h) (z : Nat) (x y : Int32) : CT G mX13_most [.long x.toInt64, .long y.toInt64] h z (fun v h1 z1 => v = some (.long (gm_max x y).toInt64) ∧ h1 = h ∧ z1 = z) := by
  refine CT.of (by decide +kernel) rfl rfl (Nat.le_of_ble_eq_true rfl) ?_
  refine v_lload_n dX13_most_0 rfl 0 rfl ?_
  refine v_lload_n dX13_most_1 rfl 1 rfl ?_
  refine v_lcmp_le (tgt := 10) dX13_most_2 dX13_most_3 (by decide) (fun c_3 => ?_) (fun c_3 => ?_)
  · refine v_lload_n dX13_most_10 rfl 1 rfl ?_
    exact v_lret rfl dX13_most_11 (Nat.le_of_ble_eq_true rfl) (Nat.le_of_ble_eq_true rfl) ⟨by first | rw [← sv_gg2 c_3] | rw [← sv_gg c_3], rfl, rfl⟩
  · refine v_lload_n dX13_most_6 rfl 0 rfl ?_
    refine v_goto (tgt := 11) dX13_most_7 (by decide) ?_
    exact v_lret rfl dX13_most_11 (Nat.le_of_ble_eq_true rfl) (Nat.le_of_ble_eq_true rfl) ⟨by first | rw [← sv_gg2 c_3] | rw [← sv_gg c_3], rfl, rfl⟩

abbrev mX13_isMeeting : sv_M := (cX13_isMeeting, 6, yX13_isMeeting, wsX13_isMeeting, (some .boolean), { frames := 1, cells := 0, slots := 0, locals := 23 }, [])
set_option maxHeartbeats 4000000 in
set_option maxRecDepth 100000 in
theorem t_meet (G : sv_G) (h : sv_h) (z b p n : Nat) (fs : List Value) (gs : Nat → Int32) (gx gy : Nat → Int64) (X Y : Nat → Int32) (hlen : fs.length = 71) (hm : h (b + 220) = some (.inr (11, fs))) (f_size : fs[7]? = some (.ref (b + 224))) (f_px : fs[8]? = some (.ref (b + 225))) (f_py : fs[9]? = some (.ref (b + 226))) (hgs : ab_I G h (b + 224) 64 gs) (hgx : ab_J G h (b + 225) 1024 gx) (hgy : ab_J G h (b + 226) 1024 gy) (hp64 : p < 64) (hsn : gs p = nI n) (hn16 : n ≤ 16) (hX : ∀ i, i < n → gx (16 * p + i) = (X i).toInt64) (hY : ∀ i, i < n → gy (16 * p + i) = (Y i).toInt64) (i j : Nat) (hi : i < n) (hj : j < n) (w4 : Int32) (hw4 : (w4 = 1 ∧ (gm_min (X i) (X (gm_aft n i)) ≤ gm_max (X j) (X (gm_aft n j)) ∧ gm_min (X j) (X (gm_aft n j)) ≤ gm_max (X i) (X (gm_aft n i)))) ∨ (w4 = 0 ∧ ¬ (gm_min (X i) (X (gm_aft n i)) ≤ gm_max (X j) (X (gm_aft n j)) ∧ gm_min (X j) (X (gm_aft n j)) ≤ gm_max (X i) (X (gm_aft n i))))) : V G mX13_isMeeting (sv_MQ G mX13_isMeeting (fun v h1 z1 => (∃ w : Int32, v = some (.int w) ∧ ((w = 1 ∧ gm_touch n X Y i j) ∨ (w = 0 ∧ ¬ gm_touch n X Y i j))) ∧ h1 = h ∧ z1 = z)) 83 [(4, .int w4), (0, .ref (b + 220)), (1, .int (nI p)), (2, .int (nI i)), (3, .int (nI j))] [] h z 0 0 := by
  refine v_aload_n dX13_isMeeting_83 rfl 1 rfl ?_
  refine v_iload_n dX13_isMeeting_84 rfl 2 rfl ?_
  refine v_iload_n dX13_isMeeting_85 rfl 3 rfl ?_
  refine v_callVq (M' := mX13_cornerY) (n := 2) (As := [_, _]) (ci := 11) (r := (RX13, TX13, 71)) gX13_isMeeting_X13_cornerY rfl (by decide +kernel) ⟨(Nat.le_of_ble_eq_true rfl), (Nat.le_of_ble_eq_true rfl)⟩ rfl rfl dX13_isMeeting_86 rfl ⟨(Nat.le_of_ble_eq_true rfl), (Nat.le_of_ble_eq_true rfl)⟩ (Nat.le_of_ble_eq_true rfl) (by repeat (first | (with_reducible refine sv_us.trans ?_; exact rfl) | with_reducible assumption | with_reducible refine (sv_un (by omega)).trans ?_)) rfl (m_cornerY0 G _ _ b p n fs gs gx gy X Y hlen hm f_size f_px f_py hgs hgx hgy hp64 hsn hn16 hX hY i (by omega)) (fun v h1 z1 hq => v_pq hq ?_)
  refine v_aload_n dX13_isMeeting_89 rfl 1 rfl ?_
  refine v_iload_n dX13_isMeeting_90 rfl 2 rfl ?_
  refine v_iload_n dX13_isMeeting_91 rfl 3 rfl ?_
  refine v_iconst (v := 1) dX13_isMeeting_92 (by decide) ?_
  refine v_iadd dX13_isMeeting_93 ?_
  refine v_callVq (M' := mX13_cornerY) (n := 2) (As := [_, _]) (ci := 11) (r := (RX13, TX13, 71)) gX13_isMeeting_X13_cornerY rfl (by decide +kernel) ⟨(Nat.le_of_ble_eq_true rfl), (Nat.le_of_ble_eq_true rfl)⟩ rfl rfl dX13_isMeeting_94 rfl ⟨(Nat.le_of_ble_eq_true rfl), (Nat.le_of_ble_eq_true rfl)⟩ (Nat.le_of_ble_eq_true rfl) (by repeat (first | (with_reducible refine sv_us.trans ?_; exact rfl) | with_reducible assumption | with_reducible refine (sv_un (by omega)).trans ?_)) rfl (m_cornerY1 G _ _ b p n fs gs gx gy X Y hlen hm f_size f_px f_py hgs hgx hgy hp64 hsn hn16 hX hY i (by omega)) (fun v h1 z1 hq => v_pq hq ?_)
  refine v_callSq (M' := mX13_least) (n := 2) (As := [_, _]) ggX13_isMeeting_X13_least (by decide +kernel) (by decide +kernel) (by decide +kernel) rfl (by decide +kernel) ⟨(Nat.le_of_ble_eq_true rfl), (Nat.le_of_ble_eq_true rfl)⟩ dX13_isMeeting_97 rfl ⟨(Nat.le_of_ble_eq_true rfl), (Nat.le_of_ble_eq_true rfl)⟩ (Nat.le_of_ble_eq_true rfl) rfl (m_least G _ _ _ _) (fun v h1 z1 hq => v_pq hq ?_)
  refine v_aload_n dX13_isMeeting_100 rfl 1 rfl ?_
  refine v_iload_n dX13_isMeeting_101 rfl 2 rfl ?_
  refine v_iload_n dX13_isMeeting_102 rfl 4 rfl ?_
  refine v_callVq (M' := mX13_cornerY) (n := 2) (As := [_, _]) (ci := 11) (r := (RX13, TX13, 71)) gX13_isMeeting_X13_cornerY rfl (by decide +kernel) ⟨(Nat.le_of_ble_eq_true rfl), (Nat.le_of_ble_eq_true rfl)⟩ rfl rfl dX13_isMeeting_103 rfl ⟨(Nat.le_of_ble_eq_true rfl), (Nat.le_of_ble_eq_true rfl)⟩ (Nat.le_of_ble_eq_true rfl) (by repeat (first | (with_reducible refine sv_us.trans ?_; exact rfl) | with_reducible assumption | with_reducible refine (sv_un (by omega)).trans ?_)) rfl (m_cornerY0 G _ _ b p n fs gs gx gy X Y hlen hm f_size f_px f_py hgs hgx hgy hp64 hsn hn16 hX hY j (by omega)) (fun v h1 z1 hq => v_pq hq ?_)
  refine v_aload_n dX13_isMeeting_106 rfl 1 rfl ?_
  refine v_iload_n dX13_isMeeting_107 rfl 2 rfl ?_
  refine v_iload_n dX13_isMeeting_108 rfl 4 rfl ?_
  refine v_iconst (v := 1) dX13_isMeeting_109 (by decide) ?_
  refine v_iadd dX13_isMeeting_110 ?_
  refine v_callVq (M' := mX13_cornerY) (n := 2) (As := [_, _]) (ci := 11) (r := (RX13, TX13, 71)) gX13_isMeeting_X13_cornerY rfl (by decide +kernel) ⟨(Nat.le_of_ble_eq_true rfl), (Nat.le_of_ble_eq_true rfl)⟩ rfl rfl dX13_isMeeting_111 rfl ⟨(Nat.le_of_ble_eq_true rfl), (Nat.le_of_ble_eq_true rfl)⟩ (Nat.le_of_ble_eq_true rfl) (by repeat (first | (with_reducible refine sv_us.trans ?_; exact rfl) | with_reducible assumption | with_reducible refine (sv_un (by omega)).trans ?_)) rfl (m_cornerY1 G _ _ b p n fs gs gx gy X Y hlen hm f_size f_px f_py hgs hgx hgy hp64 hsn hn16 hX hY j (by omega)) (fun v h1 z1 hq => v_pq hq ?_)
  refine v_callSq (M' := mX13_most) (n := 2) (As := [_, _]) ggX13_isMeeting_X13_most (by decide +kernel) (by decide +kernel) (by decide +kernel) rfl (by decide +kernel) ⟨(Nat.le_of_ble_eq_true rfl), (Nat.le_of_ble_eq_true rfl)⟩ dX13_isMeeting_114 rfl ⟨(Nat.le_of_ble_eq_true rfl), (Nat.le_of_ble_eq_true rfl)⟩ (Nat.le_of_ble_eq_true rfl) rfl (m_most G _ _ _ _) (fun v h1 z1 hq => v_pq hq ?_)
  refine v_lcmp_gt (tgt := 163) dX13_isMeeting_117 dX13_isMeeting_118 (by decide) (fun c_118 => ?_) (fun c_118 => ?_)
  · refine v_iconst (v := 0) dX13_isMeeting_163 (by decide) ?_
    refine v_istore (L' := [(5, _), (4, _), (0, _), (1, _), (2, _), (3, _)]) dX13_isMeeting_164 (Nat.le_of_ble_eq_true rfl) rfl ?_
    refine v_iload dX13_isMeeting_166 1 rfl ?_
    refine v_if_eq (tgt := 180) dX13_isMeeting_168 (by decide) (fun c_168 => ?_) (fun c_168 => ?_)
    · refine v_iconst (v := 0) dX13_isMeeting_180 (by decide) ?_
      exact v_iret rfl dX13_isMeeting_181 (Nat.le_of_ble_eq_true rfl) (Nat.le_of_ble_eq_true rfl) rfl ⟨⟨_, rfl, by first | exact absurd c_173 (by decide) | exact absurd rfl c_173 | exact Or.inr ⟨rfl, fun q => absurd ⟨q.1, q.2.1⟩ (hw4.resolve_left (fun r => by rw [r.1] at c_168; exact absurd c_168 (by decide))).2⟩ | exact Or.inl ⟨rfl, (hw4.resolve_right (fun r => c_168 r.1)).2.1, (hw4.resolve_right (fun r => c_168 r.1)).2.2, (Int32.not_lt.mp (fun q => c_118 (sv_64l.mpr q))), (Int32.not_lt.mp (fun q => c_156 (sv_64l.mpr q)))⟩ | exact Or.inr ⟨rfl, fun q => absurd q.2.2.1 (Int32.not_le.mpr (sv_64l.mp c_118))⟩ | exact Or.inr ⟨rfl, fun q => absurd q.2.2.2 (Int32.not_le.mpr (sv_64l.mp c_156))⟩⟩, rfl, rfl⟩
    · refine v_iload dX13_isMeeting_171 0 rfl ?_
      refine v_if_eq (tgt := 180) dX13_isMeeting_173 (by decide) (fun c_173 => ?_) (fun c_173 => ?_)
      · refine v_iconst (v := 0) dX13_isMeeting_180 (by decide) ?_
        exact v_iret rfl dX13_isMeeting_181 (Nat.le_of_ble_eq_true rfl) (Nat.le_of_ble_eq_true rfl) rfl ⟨⟨_, rfl, by first | exact absurd c_173 (by decide) | exact absurd rfl c_173 | exact Or.inr ⟨rfl, fun q => absurd ⟨q.1, q.2.1⟩ (hw4.resolve_left (fun r => by rw [r.1] at c_168; exact absurd c_168 (by decide))).2⟩ | exact Or.inl ⟨rfl, (hw4.resolve_right (fun r => c_168 r.1)).2.1, (hw4.resolve_right (fun r => c_168 r.1)).2.2, (Int32.not_lt.mp (fun q => c_118 (sv_64l.mpr q))), (Int32.not_lt.mp (fun q => c_156 (sv_64l.mpr q)))⟩ | exact Or.inr ⟨rfl, fun q => absurd q.2.2.1 (Int32.not_le.mpr (sv_64l.mp c_118))⟩ | exact Or.inr ⟨rfl, fun q => absurd q.2.2.2 (Int32.not_le.mpr (sv_64l.mp c_156))⟩⟩, rfl, rfl⟩
      · refine v_iconst (v := 1) dX13_isMeeting_176 (by decide) ?_
        refine v_goto (tgt := 181) dX13_isMeeting_177 (by decide) ?_
        exact v_iret rfl dX13_isMeeting_181 (Nat.le_of_ble_eq_true rfl) (Nat.le_of_ble_eq_true rfl) rfl ⟨⟨_, rfl, by first | exact absurd c_173 (by decide) | exact absurd rfl c_173 | exact Or.inr ⟨rfl, fun q => absurd ⟨q.1, q.2.1⟩ (hw4.resolve_left (fun r => by rw [r.1] at c_168; exact absurd c_168 (by decide))).2⟩ | exact Or.inl ⟨rfl, (hw4.resolve_right (fun r => c_168 r.1)).2.1, (hw4.resolve_right (fun r => c_168 r.1)).2.2, (Int32.not_lt.mp (fun q => c_118 (sv_64l.mpr q))), (Int32.not_lt.mp (fun q => c_156 (sv_64l.mpr q)))⟩ | exact Or.inr ⟨rfl, fun q => absurd q.2.2.1 (Int32.not_le.mpr (sv_64l.mp c_118))⟩ | exact Or.inr ⟨rfl, fun q => absurd q.2.2.2 (Int32.not_le.mpr (sv_64l.mp c_156))⟩⟩, rfl, rfl⟩
  · refine v_aload_n dX13_isMeeting_121 rfl 1 rfl ?_
    refine v_iload_n dX13_isMeeting_122 rfl 2 rfl ?_
    refine v_iload_n dX13_isMeeting_123 rfl 4 rfl ?_
    refine v_callVq (M' := mX13_cornerY) (n := 2) (As := [_, _]) (ci := 11) (r := (RX13, TX13, 71)) gX13_isMeeting_X13_cornerY rfl (by decide +kernel) ⟨(Nat.le_of_ble_eq_true rfl), (Nat.le_of_ble_eq_true rfl)⟩ rfl rfl dX13_isMeeting_124 rfl ⟨(Nat.le_of_ble_eq_true rfl), (Nat.le_of_ble_eq_true rfl)⟩ (Nat.le_of_ble_eq_true rfl) (by repeat (first | (with_reducible refine sv_us.trans ?_; exact rfl) | with_reducible assumption | with_reducible refine (sv_un (by omega)).trans ?_)) rfl (m_cornerY0 G _ _ b p n fs gs gx gy X Y hlen hm f_size f_px f_py hgs hgx hgy hp64 hsn hn16 hX hY j (by omega)) (fun v h1 z1 hq => v_pq hq ?_)
    refine v_aload_n dX13_isMeeting_127 rfl 1 rfl ?_
    refine v_iload_n dX13_isMeeting_128 rfl 2 rfl ?_
    refine v_iload_n dX13_isMeeting_129 rfl 4 rfl ?_
    refine v_iconst (v := 1) dX13_isMeeting_130 (by decide) ?_
    refine v_iadd dX13_isMeeting_131 ?_
    refine v_callVq (M' := mX13_cornerY) (n := 2) (As := [_, _]) (ci := 11) (r := (RX13, TX13, 71)) gX13_isMeeting_X13_cornerY rfl (by decide +kernel) ⟨(Nat.le_of_ble_eq_true rfl), (Nat.le_of_ble_eq_true rfl)⟩ rfl rfl dX13_isMeeting_132 rfl ⟨(Nat.le_of_ble_eq_true rfl), (Nat.le_of_ble_eq_true rfl)⟩ (Nat.le_of_ble_eq_true rfl) (by repeat (first | (with_reducible refine sv_us.trans ?_; exact rfl) | with_reducible assumption | with_reducible refine (sv_un (by omega)).trans ?_)) rfl (m_cornerY1 G _ _ b p n fs gs gx gy X Y hlen hm f_size f_px f_py hgs hgx hgy hp64 hsn hn16 hX hY j (by omega)) (fun v h1 z1 hq => v_pq hq ?_)
    refine v_callSq (M' := mX13_least) (n := 2) (As := [_, _]) ggX13_isMeeting_X13_least (by decide +kernel) (by decide +kernel) (by decide +kernel) rfl (by decide +kernel) ⟨(Nat.le_of_ble_eq_true rfl), (Nat.le_of_ble_eq_true rfl)⟩ dX13_isMeeting_135 rfl ⟨(Nat.le_of_ble_eq_true rfl), (Nat.le_of_ble_eq_true rfl)⟩ (Nat.le_of_ble_eq_true rfl) rfl (m_least G _ _ _ _) (fun v h1 z1 hq => v_pq hq ?_)
    refine v_aload_n dX13_isMeeting_138 rfl 1 rfl ?_
    refine v_iload_n dX13_isMeeting_139 rfl 2 rfl ?_
    refine v_iload_n dX13_isMeeting_140 rfl 3 rfl ?_
    refine v_callVq (M' := mX13_cornerY) (n := 2) (As := [_, _]) (ci := 11) (r := (RX13, TX13, 71)) gX13_isMeeting_X13_cornerY rfl (by decide +kernel) ⟨(Nat.le_of_ble_eq_true rfl), (Nat.le_of_ble_eq_true rfl)⟩ rfl rfl dX13_isMeeting_141 rfl ⟨(Nat.le_of_ble_eq_true rfl), (Nat.le_of_ble_eq_true rfl)⟩ (Nat.le_of_ble_eq_true rfl) (by repeat (first | (with_reducible refine sv_us.trans ?_; exact rfl) | with_reducible assumption | with_reducible refine (sv_un (by omega)).trans ?_)) rfl (m_cornerY0 G _ _ b p n fs gs gx gy X Y hlen hm f_size f_px f_py hgs hgx hgy hp64 hsn hn16 hX hY i (by omega)) (fun v h1 z1 hq => v_pq hq ?_)
    refine v_aload_n dX13_isMeeting_144 rfl 1 rfl ?_
    refine v_iload_n dX13_isMeeting_145 rfl 2 rfl ?_
    refine v_iload_n dX13_isMeeting_146 rfl 3 rfl ?_
    refine v_iconst (v := 1) dX13_isMeeting_147 (by decide) ?_
    refine v_iadd dX13_isMeeting_148 ?_
    refine v_callVq (M' := mX13_cornerY) (n := 2) (As := [_, _]) (ci := 11) (r := (RX13, TX13, 71)) gX13_isMeeting_X13_cornerY rfl (by decide +kernel) ⟨(Nat.le_of_ble_eq_true rfl), (Nat.le_of_ble_eq_true rfl)⟩ rfl rfl dX13_isMeeting_149 rfl ⟨(Nat.le_of_ble_eq_true rfl), (Nat.le_of_ble_eq_true rfl)⟩ (Nat.le_of_ble_eq_true rfl) (by repeat (first | (with_reducible refine sv_us.trans ?_; exact rfl) | with_reducible assumption | with_reducible refine (sv_un (by omega)).trans ?_)) rfl (m_cornerY1 G _ _ b p n fs gs gx gy X Y hlen hm f_size f_px f_py hgs hgx hgy hp64 hsn hn16 hX hY i (by omega)) (fun v h1 z1 hq => v_pq hq ?_)
    refine v_callSq (M' := mX13_most) (n := 2) (As := [_, _]) ggX13_isMeeting_X13_most (by decide +kernel) (by decide +kernel) (by decide +kernel) rfl (by decide +kernel) ⟨(Nat.le_of_ble_eq_true rfl), (Nat.le_of_ble_eq_true rfl)⟩ dX13_isMeeting_152 rfl ⟨(Nat.le_of_ble_eq_true rfl), (Nat.le_of_ble_eq_true rfl)⟩ (Nat.le_of_ble_eq_true rfl) rfl (m_most G _ _ _ _) (fun v h1 z1 hq => v_pq hq ?_)
    refine v_lcmp_gt (tgt := 163) dX13_isMeeting_155 dX13_isMeeting_156 (by decide) (fun c_156 => ?_) (fun c_156 => ?_)
    · refine v_iconst (v := 0) dX13_isMeeting_163 (by decide) ?_
      refine v_istore (L' := [(5, _), (4, _), (0, _), (1, _), (2, _), (3, _)]) dX13_isMeeting_164 (Nat.le_of_ble_eq_true rfl) rfl ?_
      refine v_iload dX13_isMeeting_166 1 rfl ?_
      refine v_if_eq (tgt := 180) dX13_isMeeting_168 (by decide) (fun c_168 => ?_) (fun c_168 => ?_)
      · refine v_iconst (v := 0) dX13_isMeeting_180 (by decide) ?_
        exact v_iret rfl dX13_isMeeting_181 (Nat.le_of_ble_eq_true rfl) (Nat.le_of_ble_eq_true rfl) rfl ⟨⟨_, rfl, by first | exact absurd c_173 (by decide) | exact absurd rfl c_173 | exact Or.inr ⟨rfl, fun q => absurd ⟨q.1, q.2.1⟩ (hw4.resolve_left (fun r => by rw [r.1] at c_168; exact absurd c_168 (by decide))).2⟩ | exact Or.inl ⟨rfl, (hw4.resolve_right (fun r => c_168 r.1)).2.1, (hw4.resolve_right (fun r => c_168 r.1)).2.2, (Int32.not_lt.mp (fun q => c_118 (sv_64l.mpr q))), (Int32.not_lt.mp (fun q => c_156 (sv_64l.mpr q)))⟩ | exact Or.inr ⟨rfl, fun q => absurd q.2.2.1 (Int32.not_le.mpr (sv_64l.mp c_118))⟩ | exact Or.inr ⟨rfl, fun q => absurd q.2.2.2 (Int32.not_le.mpr (sv_64l.mp c_156))⟩⟩, rfl, rfl⟩
      · refine v_iload dX13_isMeeting_171 0 rfl ?_
        refine v_if_eq (tgt := 180) dX13_isMeeting_173 (by decide) (fun c_173 => ?_) (fun c_173 => ?_)
        · refine v_iconst (v := 0) dX13_isMeeting_180 (by decide) ?_
          exact v_iret rfl dX13_isMeeting_181 (Nat.le_of_ble_eq_true rfl) (Nat.le_of_ble_eq_true rfl) rfl ⟨⟨_, rfl, by first | exact absurd c_173 (by decide) | exact absurd rfl c_173 | exact Or.inr ⟨rfl, fun q => absurd ⟨q.1, q.2.1⟩ (hw4.resolve_left (fun r => by rw [r.1] at c_168; exact absurd c_168 (by decide))).2⟩ | exact Or.inl ⟨rfl, (hw4.resolve_right (fun r => c_168 r.1)).2.1, (hw4.resolve_right (fun r => c_168 r.1)).2.2, (Int32.not_lt.mp (fun q => c_118 (sv_64l.mpr q))), (Int32.not_lt.mp (fun q => c_156 (sv_64l.mpr q)))⟩ | exact Or.inr ⟨rfl, fun q => absurd q.2.2.1 (Int32.not_le.mpr (sv_64l.mp c_118))⟩ | exact Or.inr ⟨rfl, fun q => absurd q.2.2.2 (Int32.not_le.mpr (sv_64l.mp c_156))⟩⟩, rfl, rfl⟩
        · refine v_iconst (v := 1) dX13_isMeeting_176 (by decide) ?_
          refine v_goto (tgt := 181) dX13_isMeeting_177 (by decide) ?_
          exact v_iret rfl dX13_isMeeting_181 (Nat.le_of_ble_eq_true rfl) (Nat.le_of_ble_eq_true rfl) rfl ⟨⟨_, rfl, by first | exact absurd c_173 (by decide) | exact absurd rfl c_173 | exact Or.inr ⟨rfl, fun q => absurd ⟨q.1, q.2.1⟩ (hw4.resolve_left (fun r => by rw [r.1] at c_168; exact absurd c_168 (by decide))).2⟩ | exact Or.inl ⟨rfl, (hw4.resolve_right (fun r => c_168 r.1)).2.1, (hw4.resolve_right (fun r => c_168 r.1)).2.2, (Int32.not_lt.mp (fun q => c_118 (sv_64l.mpr q))), (Int32.not_lt.mp (fun q => c_156 (sv_64l.mpr q)))⟩ | exact Or.inr ⟨rfl, fun q => absurd q.2.2.1 (Int32.not_le.mpr (sv_64l.mp c_118))⟩ | exact Or.inr ⟨rfl, fun q => absurd q.2.2.2 (Int32.not_le.mpr (sv_64l.mp c_156))⟩⟩, rfl, rfl⟩
    · refine v_iconst (v := 1) dX13_isMeeting_159 (by decide) ?_
      refine v_goto (tgt := 164) dX13_isMeeting_160 (by decide) ?_
      refine v_istore (L' := [(5, _), (4, _), (0, _), (1, _), (2, _), (3, _)]) dX13_isMeeting_164 (Nat.le_of_ble_eq_true rfl) rfl ?_
      refine v_iload dX13_isMeeting_166 1 rfl ?_
      refine v_if_eq (tgt := 180) dX13_isMeeting_168 (by decide) (fun c_168 => ?_) (fun c_168 => ?_)
      · refine v_iconst (v := 0) dX13_isMeeting_180 (by decide) ?_
        exact v_iret rfl dX13_isMeeting_181 (Nat.le_of_ble_eq_true rfl) (Nat.le_of_ble_eq_true rfl) rfl ⟨⟨_, rfl, by first | exact absurd c_173 (by decide) | exact absurd rfl c_173 | exact Or.inr ⟨rfl, fun q => absurd ⟨q.1, q.2.1⟩ (hw4.resolve_left (fun r => by rw [r.1] at c_168; exact absurd c_168 (by decide))).2⟩ | exact Or.inl ⟨rfl, (hw4.resolve_right (fun r => c_168 r.1)).2.1, (hw4.resolve_right (fun r => c_168 r.1)).2.2, (Int32.not_lt.mp (fun q => c_118 (sv_64l.mpr q))), (Int32.not_lt.mp (fun q => c_156 (sv_64l.mpr q)))⟩ | exact Or.inr ⟨rfl, fun q => absurd q.2.2.1 (Int32.not_le.mpr (sv_64l.mp c_118))⟩ | exact Or.inr ⟨rfl, fun q => absurd q.2.2.2 (Int32.not_le.mpr (sv_64l.mp c_156))⟩⟩, rfl, rfl⟩
      · refine v_iload dX13_isMeeting_171 0 rfl ?_
        refine v_if_eq (tgt := 180) dX13_isMeeting_173 (by decide) (fun c_173 => ?_) (fun c_173 => ?_)
        · refine v_iconst (v := 0) dX13_isMeeting_180 (by decide) ?_
          exact v_iret rfl dX13_isMeeting_181 (Nat.le_of_ble_eq_true rfl) (Nat.le_of_ble_eq_true rfl) rfl ⟨⟨_, rfl, by first | exact absurd c_173 (by decide) | exact absurd rfl c_173 | exact Or.inr ⟨rfl, fun q => absurd ⟨q.1, q.2.1⟩ (hw4.resolve_left (fun r => by rw [r.1] at c_168; exact absurd c_168 (by decide))).2⟩ | exact Or.inl ⟨rfl, (hw4.resolve_right (fun r => c_168 r.1)).2.1, (hw4.resolve_right (fun r => c_168 r.1)).2.2, (Int32.not_lt.mp (fun q => c_118 (sv_64l.mpr q))), (Int32.not_lt.mp (fun q => c_156 (sv_64l.mpr q)))⟩ | exact Or.inr ⟨rfl, fun q => absurd q.2.2.1 (Int32.not_le.mpr (sv_64l.mp c_118))⟩ | exact Or.inr ⟨rfl, fun q => absurd q.2.2.2 (Int32.not_le.mpr (sv_64l.mp c_156))⟩⟩, rfl, rfl⟩
        · refine v_iconst (v := 1) dX13_isMeeting_176 (by decide) ?_
          refine v_goto (tgt := 181) dX13_isMeeting_177 (by decide) ?_
          exact v_iret rfl dX13_isMeeting_181 (Nat.le_of_ble_eq_true rfl) (Nat.le_of_ble_eq_true rfl) rfl ⟨⟨_, rfl, by first | exact absurd c_173 (by decide) | exact absurd rfl c_173 | exact Or.inr ⟨rfl, fun q => absurd ⟨q.1, q.2.1⟩ (hw4.resolve_left (fun r => by rw [r.1] at c_168; exact absurd c_168 (by decide))).2⟩ | exact Or.inl ⟨rfl, (hw4.resolve_right (fun r => c_168 r.1)).2.1, (hw4.resolve_right (fun r => c_168 r.1)).2.2, (Int32.not_lt.mp (fun q => c_118 (sv_64l.mpr q))), (Int32.not_lt.mp (fun q => c_156 (sv_64l.mpr q)))⟩ | exact Or.inr ⟨rfl, fun q => absurd q.2.2.1 (Int32.not_le.mpr (sv_64l.mp c_118))⟩ | exact Or.inr ⟨rfl, fun q => absurd q.2.2.2 (Int32.not_le.mpr (sv_64l.mp c_156))⟩⟩, rfl, rfl⟩

set_option maxHeartbeats 4000000 in
set_option maxRecDepth 100000 in
theorem m_isMeeting (G : sv_G) (h : sv_h) (z b p n : Nat) (fs : List Value) (gs : Nat → Int32) (gx gy : Nat → Int64) (X Y : Nat → Int32) (hlen : fs.length = 71) (hm : h (b + 220) = some (.inr (11, fs))) (f_size : fs[7]? = some (.ref (b + 224))) (f_px : fs[8]? = some (.ref (b + 225))) (f_py : fs[9]? = some (.ref (b + 226))) (hgs : ab_I G h (b + 224) 64 gs) (hgx : ab_J G h (b + 225) 1024 gx) (hgy : ab_J G h (b + 226) 1024 gy) (hp64 : p < 64) (hsn : gs p = nI n) (hn16 : n ≤ 16) (hX : ∀ i, i < n → gx (16 * p + i) = (X i).toInt64) (hY : ∀ i, i < n → gy (16 * p + i) = (Y i).toInt64) (i j : Nat) (hi : i < n) (hj : j < n) : CT G mX13_isMeeting [.ref (b + 220), .int (nI p), .int (nI i), .int (nI j)] h z (fun v h1 z1 => (∃ w : Int32, v = some (.int w) ∧ ((w = 1 ∧ gm_touch n X Y i j) ∨ (w = 0 ∧ ¬ gm_touch n X Y i j))) ∧ h1 = h ∧ z1 = z) := by
  refine CT.of (by decide +kernel) rfl rfl (Nat.le_of_ble_eq_true rfl) ?_
  refine v_aload_n dX13_isMeeting_0 rfl 0 rfl ?_
  refine v_iload_n dX13_isMeeting_1 rfl 1 rfl ?_
  refine v_iload_n dX13_isMeeting_2 rfl 2 rfl ?_
  refine v_callVq (M' := mX13_cornerX) (n := 2) (As := [_, _]) (ci := 11) (r := (RX13, TX13, 71)) gX13_isMeeting_X13_cornerX rfl (by decide +kernel) ⟨(Nat.le_of_ble_eq_true rfl), (Nat.le_of_ble_eq_true rfl)⟩ rfl rfl dX13_isMeeting_3 rfl ⟨(Nat.le_of_ble_eq_true rfl), (Nat.le_of_ble_eq_true rfl)⟩ (Nat.le_of_ble_eq_true rfl) (by repeat (first | (with_reducible refine sv_us.trans ?_; exact rfl) | with_reducible assumption | with_reducible refine (sv_un (by omega)).trans ?_)) rfl (m_cornerX0 G _ _ b p n fs gs gx gy X Y hlen hm f_size f_px f_py hgs hgx hgy hp64 hsn hn16 hX hY i (by omega)) (fun v h1 z1 hq => v_pq hq ?_)
  refine v_aload_n dX13_isMeeting_6 rfl 0 rfl ?_
  refine v_iload_n dX13_isMeeting_7 rfl 1 rfl ?_
  refine v_iload_n dX13_isMeeting_8 rfl 2 rfl ?_
  refine v_iconst (v := 1) dX13_isMeeting_9 (by decide) ?_
  refine v_iadd dX13_isMeeting_10 ?_
  refine v_callVq (M' := mX13_cornerX) (n := 2) (As := [_, _]) (ci := 11) (r := (RX13, TX13, 71)) gX13_isMeeting_X13_cornerX rfl (by decide +kernel) ⟨(Nat.le_of_ble_eq_true rfl), (Nat.le_of_ble_eq_true rfl)⟩ rfl rfl dX13_isMeeting_11 rfl ⟨(Nat.le_of_ble_eq_true rfl), (Nat.le_of_ble_eq_true rfl)⟩ (Nat.le_of_ble_eq_true rfl) (by repeat (first | (with_reducible refine sv_us.trans ?_; exact rfl) | with_reducible assumption | with_reducible refine (sv_un (by omega)).trans ?_)) rfl (m_cornerX1 G _ _ b p n fs gs gx gy X Y hlen hm f_size f_px f_py hgs hgx hgy hp64 hsn hn16 hX hY i (by omega)) (fun v h1 z1 hq => v_pq hq ?_)
  refine v_callSq (M' := mX13_least) (n := 2) (As := [_, _]) ggX13_isMeeting_X13_least (by decide +kernel) (by decide +kernel) (by decide +kernel) rfl (by decide +kernel) ⟨(Nat.le_of_ble_eq_true rfl), (Nat.le_of_ble_eq_true rfl)⟩ dX13_isMeeting_14 rfl ⟨(Nat.le_of_ble_eq_true rfl), (Nat.le_of_ble_eq_true rfl)⟩ (Nat.le_of_ble_eq_true rfl) rfl (m_least G _ _ _ _) (fun v h1 z1 hq => v_pq hq ?_)
  refine v_aload_n dX13_isMeeting_17 rfl 0 rfl ?_
  refine v_iload_n dX13_isMeeting_18 rfl 1 rfl ?_
  refine v_iload_n dX13_isMeeting_19 rfl 3 rfl ?_
  refine v_callVq (M' := mX13_cornerX) (n := 2) (As := [_, _]) (ci := 11) (r := (RX13, TX13, 71)) gX13_isMeeting_X13_cornerX rfl (by decide +kernel) ⟨(Nat.le_of_ble_eq_true rfl), (Nat.le_of_ble_eq_true rfl)⟩ rfl rfl dX13_isMeeting_20 rfl ⟨(Nat.le_of_ble_eq_true rfl), (Nat.le_of_ble_eq_true rfl)⟩ (Nat.le_of_ble_eq_true rfl) (by repeat (first | (with_reducible refine sv_us.trans ?_; exact rfl) | with_reducible assumption | with_reducible refine (sv_un (by omega)).trans ?_)) rfl (m_cornerX0 G _ _ b p n fs gs gx gy X Y hlen hm f_size f_px f_py hgs hgx hgy hp64 hsn hn16 hX hY j (by omega)) (fun v h1 z1 hq => v_pq hq ?_)
  refine v_aload_n dX13_isMeeting_23 rfl 0 rfl ?_
  refine v_iload_n dX13_isMeeting_24 rfl 1 rfl ?_
  refine v_iload_n dX13_isMeeting_25 rfl 3 rfl ?_
  refine v_iconst (v := 1) dX13_isMeeting_26 (by decide) ?_
  refine v_iadd dX13_isMeeting_27 ?_
  refine v_callVq (M' := mX13_cornerX) (n := 2) (As := [_, _]) (ci := 11) (r := (RX13, TX13, 71)) gX13_isMeeting_X13_cornerX rfl (by decide +kernel) ⟨(Nat.le_of_ble_eq_true rfl), (Nat.le_of_ble_eq_true rfl)⟩ rfl rfl dX13_isMeeting_28 rfl ⟨(Nat.le_of_ble_eq_true rfl), (Nat.le_of_ble_eq_true rfl)⟩ (Nat.le_of_ble_eq_true rfl) (by repeat (first | (with_reducible refine sv_us.trans ?_; exact rfl) | with_reducible assumption | with_reducible refine (sv_un (by omega)).trans ?_)) rfl (m_cornerX1 G _ _ b p n fs gs gx gy X Y hlen hm f_size f_px f_py hgs hgx hgy hp64 hsn hn16 hX hY j (by omega)) (fun v h1 z1 hq => v_pq hq ?_)
  refine v_callSq (M' := mX13_most) (n := 2) (As := [_, _]) ggX13_isMeeting_X13_most (by decide +kernel) (by decide +kernel) (by decide +kernel) rfl (by decide +kernel) ⟨(Nat.le_of_ble_eq_true rfl), (Nat.le_of_ble_eq_true rfl)⟩ dX13_isMeeting_31 rfl ⟨(Nat.le_of_ble_eq_true rfl), (Nat.le_of_ble_eq_true rfl)⟩ (Nat.le_of_ble_eq_true rfl) rfl (m_most G _ _ _ _) (fun v h1 z1 hq => v_pq hq ?_)
  refine v_lcmp_gt (tgt := 80) dX13_isMeeting_34 dX13_isMeeting_35 (by decide) (fun c_35 => ?_) (fun c_35 => ?_)
  · refine v_iconst (v := 0) dX13_isMeeting_80 (by decide) ?_
    refine v_istore (L' := [(4, _), (0, _), (1, _), (2, _), (3, _)]) dX13_isMeeting_81 (Nat.le_of_ble_eq_true rfl) rfl ?_
    refine v_sub (L' := [(4, _), (0, _), (1, _), (2, _), (3, _)]) [0, 1, 2, 3, 4] rfl ?_
    exact t_meet G _ _ b p n fs gs gx gy X Y hlen hm f_size f_px f_py hgs hgx hgy hp64 hsn hn16 hX hY i j hi hj _ (by first | exact Or.inl ⟨rfl, (Int32.not_lt.mp (fun q => c_35 (sv_64l.mpr q))), (Int32.not_lt.mp (fun q => c_73 (sv_64l.mpr q)))⟩ | exact Or.inr ⟨rfl, fun q => absurd q.1 (Int32.not_le.mpr (sv_64l.mp c_35))⟩ | exact Or.inr ⟨rfl, fun q => absurd q.2 (Int32.not_le.mpr (sv_64l.mp c_73))⟩)
  · refine v_aload_n dX13_isMeeting_38 rfl 0 rfl ?_
    refine v_iload_n dX13_isMeeting_39 rfl 1 rfl ?_
    refine v_iload_n dX13_isMeeting_40 rfl 3 rfl ?_
    refine v_callVq (M' := mX13_cornerX) (n := 2) (As := [_, _]) (ci := 11) (r := (RX13, TX13, 71)) gX13_isMeeting_X13_cornerX rfl (by decide +kernel) ⟨(Nat.le_of_ble_eq_true rfl), (Nat.le_of_ble_eq_true rfl)⟩ rfl rfl dX13_isMeeting_41 rfl ⟨(Nat.le_of_ble_eq_true rfl), (Nat.le_of_ble_eq_true rfl)⟩ (Nat.le_of_ble_eq_true rfl) (by repeat (first | (with_reducible refine sv_us.trans ?_; exact rfl) | with_reducible assumption | with_reducible refine (sv_un (by omega)).trans ?_)) rfl (m_cornerX0 G _ _ b p n fs gs gx gy X Y hlen hm f_size f_px f_py hgs hgx hgy hp64 hsn hn16 hX hY j (by omega)) (fun v h1 z1 hq => v_pq hq ?_)
    refine v_aload_n dX13_isMeeting_44 rfl 0 rfl ?_
    refine v_iload_n dX13_isMeeting_45 rfl 1 rfl ?_
    refine v_iload_n dX13_isMeeting_46 rfl 3 rfl ?_
    refine v_iconst (v := 1) dX13_isMeeting_47 (by decide) ?_
    refine v_iadd dX13_isMeeting_48 ?_
    refine v_callVq (M' := mX13_cornerX) (n := 2) (As := [_, _]) (ci := 11) (r := (RX13, TX13, 71)) gX13_isMeeting_X13_cornerX rfl (by decide +kernel) ⟨(Nat.le_of_ble_eq_true rfl), (Nat.le_of_ble_eq_true rfl)⟩ rfl rfl dX13_isMeeting_49 rfl ⟨(Nat.le_of_ble_eq_true rfl), (Nat.le_of_ble_eq_true rfl)⟩ (Nat.le_of_ble_eq_true rfl) (by repeat (first | (with_reducible refine sv_us.trans ?_; exact rfl) | with_reducible assumption | with_reducible refine (sv_un (by omega)).trans ?_)) rfl (m_cornerX1 G _ _ b p n fs gs gx gy X Y hlen hm f_size f_px f_py hgs hgx hgy hp64 hsn hn16 hX hY j (by omega)) (fun v h1 z1 hq => v_pq hq ?_)
    refine v_callSq (M' := mX13_least) (n := 2) (As := [_, _]) ggX13_isMeeting_X13_least (by decide +kernel) (by decide +kernel) (by decide +kernel) rfl (by decide +kernel) ⟨(Nat.le_of_ble_eq_true rfl), (Nat.le_of_ble_eq_true rfl)⟩ dX13_isMeeting_52 rfl ⟨(Nat.le_of_ble_eq_true rfl), (Nat.le_of_ble_eq_true rfl)⟩ (Nat.le_of_ble_eq_true rfl) rfl (m_least G _ _ _ _) (fun v h1 z1 hq => v_pq hq ?_)
    refine v_aload_n dX13_isMeeting_55 rfl 0 rfl ?_
    refine v_iload_n dX13_isMeeting_56 rfl 1 rfl ?_
    refine v_iload_n dX13_isMeeting_57 rfl 2 rfl ?_
    refine v_callVq (M' := mX13_cornerX) (n := 2) (As := [_, _]) (ci := 11) (r := (RX13, TX13, 71)) gX13_isMeeting_X13_cornerX rfl (by decide +kernel) ⟨(Nat.le_of_ble_eq_true rfl), (Nat.le_of_ble_eq_true rfl)⟩ rfl rfl dX13_isMeeting_58 rfl ⟨(Nat.le_of_ble_eq_true rfl), (Nat.le_of_ble_eq_true rfl)⟩ (Nat.le_of_ble_eq_true rfl) (by repeat (first | (with_reducible refine sv_us.trans ?_; exact rfl) | with_reducible assumption | with_reducible refine (sv_un (by omega)).trans ?_)) rfl (m_cornerX0 G _ _ b p n fs gs gx gy X Y hlen hm f_size f_px f_py hgs hgx hgy hp64 hsn hn16 hX hY i (by omega)) (fun v h1 z1 hq => v_pq hq ?_)
    refine v_aload_n dX13_isMeeting_61 rfl 0 rfl ?_
    refine v_iload_n dX13_isMeeting_62 rfl 1 rfl ?_
    refine v_iload_n dX13_isMeeting_63 rfl 2 rfl ?_
    refine v_iconst (v := 1) dX13_isMeeting_64 (by decide) ?_
    refine v_iadd dX13_isMeeting_65 ?_
    refine v_callVq (M' := mX13_cornerX) (n := 2) (As := [_, _]) (ci := 11) (r := (RX13, TX13, 71)) gX13_isMeeting_X13_cornerX rfl (by decide +kernel) ⟨(Nat.le_of_ble_eq_true rfl), (Nat.le_of_ble_eq_true rfl)⟩ rfl rfl dX13_isMeeting_66 rfl ⟨(Nat.le_of_ble_eq_true rfl), (Nat.le_of_ble_eq_true rfl)⟩ (Nat.le_of_ble_eq_true rfl) (by repeat (first | (with_reducible refine sv_us.trans ?_; exact rfl) | with_reducible assumption | with_reducible refine (sv_un (by omega)).trans ?_)) rfl (m_cornerX1 G _ _ b p n fs gs gx gy X Y hlen hm f_size f_px f_py hgs hgx hgy hp64 hsn hn16 hX hY i (by omega)) (fun v h1 z1 hq => v_pq hq ?_)
    refine v_callSq (M' := mX13_most) (n := 2) (As := [_, _]) ggX13_isMeeting_X13_most (by decide +kernel) (by decide +kernel) (by decide +kernel) rfl (by decide +kernel) ⟨(Nat.le_of_ble_eq_true rfl), (Nat.le_of_ble_eq_true rfl)⟩ dX13_isMeeting_69 rfl ⟨(Nat.le_of_ble_eq_true rfl), (Nat.le_of_ble_eq_true rfl)⟩ (Nat.le_of_ble_eq_true rfl) rfl (m_most G _ _ _ _) (fun v h1 z1 hq => v_pq hq ?_)
    refine v_lcmp_gt (tgt := 80) dX13_isMeeting_72 dX13_isMeeting_73 (by decide) (fun c_73 => ?_) (fun c_73 => ?_)
    · refine v_iconst (v := 0) dX13_isMeeting_80 (by decide) ?_
      refine v_istore (L' := [(4, _), (0, _), (1, _), (2, _), (3, _)]) dX13_isMeeting_81 (Nat.le_of_ble_eq_true rfl) rfl ?_
      refine v_sub (L' := [(4, _), (0, _), (1, _), (2, _), (3, _)]) [0, 1, 2, 3, 4] rfl ?_
      exact t_meet G _ _ b p n fs gs gx gy X Y hlen hm f_size f_px f_py hgs hgx hgy hp64 hsn hn16 hX hY i j hi hj _ (by first | exact Or.inl ⟨rfl, (Int32.not_lt.mp (fun q => c_35 (sv_64l.mpr q))), (Int32.not_lt.mp (fun q => c_73 (sv_64l.mpr q)))⟩ | exact Or.inr ⟨rfl, fun q => absurd q.1 (Int32.not_le.mpr (sv_64l.mp c_35))⟩ | exact Or.inr ⟨rfl, fun q => absurd q.2 (Int32.not_le.mpr (sv_64l.mp c_73))⟩)
    · refine v_iconst (v := 1) dX13_isMeeting_76 (by decide) ?_
      refine v_goto (tgt := 81) dX13_isMeeting_77 (by decide) ?_
      refine v_istore (L' := [(4, _), (0, _), (1, _), (2, _), (3, _)]) dX13_isMeeting_81 (Nat.le_of_ble_eq_true rfl) rfl ?_
      refine v_sub (L' := [(4, _), (0, _), (1, _), (2, _), (3, _)]) [0, 1, 2, 3, 4] rfl ?_
      exact t_meet G _ _ b p n fs gs gx gy X Y hlen hm f_size f_px f_py hgs hgx hgy hp64 hsn hn16 hX hY i j hi hj _ (by first | exact Or.inl ⟨rfl, (Int32.not_lt.mp (fun q => c_35 (sv_64l.mpr q))), (Int32.not_lt.mp (fun q => c_73 (sv_64l.mpr q)))⟩ | exact Or.inr ⟨rfl, fun q => absurd q.1 (Int32.not_le.mpr (sv_64l.mp c_35))⟩ | exact Or.inr ⟨rfl, fun q => absurd q.2 (Int32.not_le.mpr (sv_64l.mp c_73))⟩)

