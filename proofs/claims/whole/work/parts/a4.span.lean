theorem iwX8_spanAll_X8 : ∀ w ∈ wsX80, w ∈ wsX8_spanAll := by decide +kernel
theorem iwX1_judgeWhole_X1 : ∀ w ∈ wsX10, w ∈ wsX1_judgeWhole := by decide +kernel
theorem iwX1_judgeWhole_X10 : ∀ w ∈ wsX100, w ∈ wsX1_judgeWhole := by decide +kernel
theorem iwX1_judgeWhole_X5 : ∀ w ∈ wsX50, w ∈ wsX1_judgeWhole := by decide +kernel
theorem iwX1_judgeWhole_X7 : ∀ w ∈ wsX70, w ∈ wsX1_judgeWhole := by decide +kernel
theorem iwX1_judgeWhole_X8 : ∀ w ∈ wsX80, w ∈ wsX1_judgeWhole := by decide +kernel
set_option maxRecDepth 20000 in
theorem ggX1_judgeWhole_X8_gather : GoodIn wsX1_judgeWhole wsX8_gather := goodIn_r _ [18, 19, 20, 21, 22, 23, 24, 17, 25, 26, 27, 28, 29, 30, 31, 32, 33, 34, 35, 36, 37, 38, 39, 40, 41, 42, 43, 44, 45, 46, 47, 48, 49, 50, 51, 52, 53, 54, 55, 56, 57, 58, 59, 60, 61, 62, 63, 64, 65, 66, 67, 68, 69, 70, 71, 72, 73, 74, 75, 76, 77, 78, 79, 80, 81, 82, 83, 84, 85, 86, 87, 88, 89, 90, 91, 92, 93, 94, 95, 96, 97, 98, 99, 100, 101, 102, 103, 104, 105, 106, 107, 108, 109, 110, 111, 112, 113, 114, 115, 116, 117, 118, 119, 120, 121, 122, 123, 124, 125, 126, 127, 128, 167, 168, 169, 170, 171, 172, 173, 174, 175, 176, 177, 178, 179, 180, 191, 192, 193, 194, 195, 196, 197, 198, 199, 200, 201, 202, 203, 204, 205, 206, 207, 208, 181, 182, 183, 184, 185, 186, 187, 188, 189, 190, 209, 210, 211, 212] (by decide +kernel) (by decide +kernel)
set_option maxRecDepth 20000 in
theorem gX1_judgeWhole_X8_gather : GoodIn wsX1_judgeWhole (wsV RX1 117 RX8 yX8_gather wsX8_gather) := goodIn_app (goodIn_of _ (by decide +kernel)) ggX1_judgeWhole_X8_gather
set_option maxRecDepth 20000 in
theorem ggX1_judgeWhole_X8_polygonOf : GoodIn wsX1_judgeWhole wsX8_polygonOf := goodIn_r _ [97, 26, 28, 53, 167, 168, 169, 170, 171, 172, 173, 174, 175, 176, 177, 178, 179, 180, 199, 200, 201, 202, 203, 204, 205, 206, 207, 208] (by decide +kernel) (by decide +kernel)
set_option maxRecDepth 20000 in
theorem gX1_judgeWhole_X8_polygonOf : GoodIn wsX1_judgeWhole (wsV RX1 125 RX8 yX8_polygonOf wsX8_polygonOf) := goodIn_app (goodIn_of _ (by decide +kernel)) ggX1_judgeWhole_X8_polygonOf
set_option maxRecDepth 20000 in
theorem ggX1_judgeWhole_X8_spanAll : GoodIn wsX1_judgeWhole wsX8_spanAll := goodIn_r _ [133, 134, 19, 86, 87, 88, 89, 90, 91, 92, 93, 135, 136, 137, 138, 167, 168, 169, 170, 171, 172, 173, 174, 175, 176, 177, 178, 179, 180] (by decide +kernel) (by decide +kernel)
set_option maxRecDepth 20000 in
theorem gX1_judgeWhole_X8_spanAll : GoodIn wsX1_judgeWhole (wsV RX1 140 RX8 yX8_spanAll wsX8_spanAll) := goodIn_app (goodIn_of _ (by decide +kernel)) ggX1_judgeWhole_X8_spanAll
set_option maxRecDepth 20000 in
theorem ggX1_judgeWhole_X10_add : GoodIn wsX1_judgeWhole wsX10_add := goodIn_r _ [143, 144, 145, 146, 147, 148, 149, 150, 151, 152, 153, 160, 161, 162, 163, 164, 165, 166] (by decide +kernel) (by decide +kernel)
set_option maxRecDepth 20000 in
theorem gX1_judgeWhole_X10_add : GoodIn wsX1_judgeWhole (wsV RX1 154 RX10 yX10_add wsX10_add) := goodIn_app (goodIn_of _ (by decide +kernel)) ggX1_judgeWhole_X10_add
theorem dX1_judgeWhole_0 : decode cX1_judgeWhole 0 = .ok (.aload_n 0, 1) := by decide +kernel
theorem dX1_judgeWhole_1 : decode cX1_judgeWhole 1 = .ok (.getfield 30, 3) := by decide +kernel
theorem dX1_judgeWhole_4 : decode cX1_judgeWhole 4 = .ok (.iload_n 1, 1) := by decide +kernel
theorem dX1_judgeWhole_5 : decode cX1_judgeWhole 5 = .ok (.aload_n 0, 1) := by decide +kernel
theorem dX1_judgeWhole_6 : decode cX1_judgeWhole 6 = .ok (.getfield 41, 3) := by decide +kernel
theorem dX1_judgeWhole_9 : decode cX1_judgeWhole 9 = .ok (.invokevirtual 117, 3) := by decide +kernel
theorem dX1_judgeWhole_12 : decode cX1_judgeWhole 12 = .ok (.aload_n 0, 1) := by decide +kernel
theorem dX1_judgeWhole_13 : decode cX1_judgeWhole 13 = .ok (.getfield 45, 3) := by decide +kernel
theorem dX1_judgeWhole_16 : decode cX1_judgeWhole 16 = .ok (.iload_n 1, 1) := by decide +kernel
theorem dX1_judgeWhole_17 : decode cX1_judgeWhole 17 = .ok (.putfield 121, 3) := by decide +kernel
theorem dX1_judgeWhole_20 : decode cX1_judgeWhole 20 = .ok (.lconst 0, 1) := by decide +kernel
theorem dX1_judgeWhole_21 : decode cX1_judgeWhole 21 = .ok (.lstore_n 2, 1) := by decide +kernel
theorem dX1_judgeWhole_22 : decode cX1_judgeWhole 22 = .ok (.iconst 0, 1) := by decide +kernel
theorem dX1_judgeWhole_23 : decode cX1_judgeWhole 23 = .ok (.istore 4, 2) := by decide +kernel
theorem dX1_judgeWhole_25 : decode cX1_judgeWhole 25 = .ok (.iconst 0, 1) := by decide +kernel
theorem dX1_judgeWhole_26 : decode cX1_judgeWhole 26 = .ok (.istore 5, 2) := by decide +kernel
theorem dX1_judgeWhole_28 : decode cX1_judgeWhole 28 = .ok (.iload 5, 2) := by decide +kernel
theorem dX1_judgeWhole_30 : decode cX1_judgeWhole 30 = .ok (.aload_n 0, 1) := by decide +kernel
theorem dX1_judgeWhole_31 : decode cX1_judgeWhole 31 = .ok (.getfield 30, 3) := by decide +kernel
theorem dX1_judgeWhole_34 : decode cX1_judgeWhole 34 = .ok (.getfield 124, 3) := by decide +kernel
theorem dX1_judgeWhole_37 : decode cX1_judgeWhole 37 = .ok (.if_icmp .ge 50, 3) := by decide +kernel
theorem dX1_judgeWhole_40 : decode cX1_judgeWhole 40 = .ok (.aload_n 0, 1) := by decide +kernel
theorem dX1_judgeWhole_41 : decode cX1_judgeWhole 41 = .ok (.getfield 30, 3) := by decide +kernel
theorem dX1_judgeWhole_44 : decode cX1_judgeWhole 44 = .ok (.iload 5, 2) := by decide +kernel
theorem dX1_judgeWhole_46 : decode cX1_judgeWhole 46 = .ok (.invokevirtual 125, 3) := by decide +kernel
theorem dX1_judgeWhole_49 : decode cX1_judgeWhole 49 = .ok (.getfield 129, 3) := by decide +kernel
theorem dX1_judgeWhole_52 : decode cX1_judgeWhole 52 = .ok (.aload_n 0, 1) := by decide +kernel
theorem dX1_judgeWhole_53 : decode cX1_judgeWhole 53 = .ok (.getfield 41, 3) := by decide +kernel
theorem dX1_judgeWhole_56 : decode cX1_judgeWhole 56 = .ok (.getfield 134, 3) := by decide +kernel
theorem dX1_judgeWhole_59 : decode cX1_judgeWhole 59 = .ok (.if_icmp .ne 22, 3) := by decide +kernel
theorem dX1_judgeWhole_62 : decode cX1_judgeWhole 62 = .ok (.lload_n 2, 1) := by decide +kernel
theorem dX1_judgeWhole_63 : decode cX1_judgeWhole 63 = .ok (.aload_n 0, 1) := by decide +kernel
theorem dX1_judgeWhole_64 : decode cX1_judgeWhole 64 = .ok (.getfield 30, 3) := by decide +kernel
theorem dX1_judgeWhole_67 : decode cX1_judgeWhole 67 = .ok (.iload 5, 2) := by decide +kernel
theorem dX1_judgeWhole_69 : decode cX1_judgeWhole 69 = .ok (.invokevirtual 125, 3) := by decide +kernel
theorem dX1_judgeWhole_72 : decode cX1_judgeWhole 72 = .ok (.getfield 137, 3) := by decide +kernel
theorem dX1_judgeWhole_75 : decode cX1_judgeWhole 75 = .ok (.i2l, 1) := by decide +kernel
theorem dX1_judgeWhole_76 : decode cX1_judgeWhole 76 = .ok (.ladd, 1) := by decide +kernel
theorem dX1_judgeWhole_77 : decode cX1_judgeWhole 77 = .ok (.lstore_n 2, 1) := by decide +kernel
theorem dX1_judgeWhole_78 : decode cX1_judgeWhole 78 = .ok (.iinc 4 1, 3) := by decide +kernel
theorem dX1_judgeWhole_81 : decode cX1_judgeWhole 81 = .ok (.iinc 5 1, 3) := by decide +kernel
theorem dX1_judgeWhole_84 : decode cX1_judgeWhole 84 = .ok (.goto (-56), 3) := by decide +kernel
theorem dX1_judgeWhole_87 : decode cX1_judgeWhole 87 = .ok (.aload_n 0, 1) := by decide +kernel
theorem dX1_judgeWhole_88 : decode cX1_judgeWhole 88 = .ok (.getfield 30, 3) := by decide +kernel
theorem dX1_judgeWhole_91 : decode cX1_judgeWhole 91 = .ok (.invokevirtual 140, 3) := by decide +kernel
theorem dX1_judgeWhole_94 : decode cX1_judgeWhole 94 = .ok (.aload_n 0, 1) := by decide +kernel
theorem dX1_judgeWhole_95 : decode cX1_judgeWhole 95 = .ok (.getfield 30, 3) := by decide +kernel
theorem dX1_judgeWhole_98 : decode cX1_judgeWhole 98 = .ok (.getfield 143, 3) := by decide +kernel
theorem dX1_judgeWhole_101 : decode cX1_judgeWhole 101 = .ok (.astore 5, 2) := by decide +kernel
theorem dX1_judgeWhole_103 : decode cX1_judgeWhole 103 = .ok (.aload 5, 2) := by decide +kernel
theorem dX1_judgeWhole_105 : decode cX1_judgeWhole 105 = .ok (.iconst 2, 1) := by decide +kernel
theorem dX1_judgeWhole_106 : decode cX1_judgeWhole 106 = .ok (.iaload, 1) := by decide +kernel
theorem dX1_judgeWhole_107 : decode cX1_judgeWhole 107 = .ok (.aload 5, 2) := by decide +kernel
theorem dX1_judgeWhole_109 : decode cX1_judgeWhole 109 = .ok (.iconst 0, 1) := by decide +kernel
theorem dX1_judgeWhole_110 : decode cX1_judgeWhole 110 = .ok (.iaload, 1) := by decide +kernel
theorem dX1_judgeWhole_111 : decode cX1_judgeWhole 111 = .ok (.isub, 1) := by decide +kernel
theorem dX1_judgeWhole_112 : decode cX1_judgeWhole 112 = .ok (.i2l, 1) := by decide +kernel
theorem dX1_judgeWhole_113 : decode cX1_judgeWhole 113 = .ok (.aload 5, 2) := by decide +kernel
theorem dX1_judgeWhole_115 : decode cX1_judgeWhole 115 = .ok (.iconst 3, 1) := by decide +kernel
theorem dX1_judgeWhole_116 : decode cX1_judgeWhole 116 = .ok (.iaload, 1) := by decide +kernel
theorem dX1_judgeWhole_117 : decode cX1_judgeWhole 117 = .ok (.aload 5, 2) := by decide +kernel
theorem dX1_judgeWhole_119 : decode cX1_judgeWhole 119 = .ok (.iconst 1, 1) := by decide +kernel
theorem dX1_judgeWhole_120 : decode cX1_judgeWhole 120 = .ok (.iaload, 1) := by decide +kernel
theorem dX1_judgeWhole_121 : decode cX1_judgeWhole 121 = .ok (.isub, 1) := by decide +kernel
theorem dX1_judgeWhole_122 : decode cX1_judgeWhole 122 = .ok (.i2l, 1) := by decide +kernel
theorem dX1_judgeWhole_123 : decode cX1_judgeWhole 123 = .ok (.lmul, 1) := by decide +kernel
theorem dX1_judgeWhole_124 : decode cX1_judgeWhole 124 = .ok (.lstore 6, 2) := by decide +kernel
theorem dX1_judgeWhole_126 : decode cX1_judgeWhole 126 = .ok (.lload 6, 2) := by decide +kernel
theorem dX1_judgeWhole_128 : decode cX1_judgeWhole 128 = .ok (.lconst 0, 1) := by decide +kernel
theorem dX1_judgeWhole_129 : decode cX1_judgeWhole 129 = .ok (.lcmp, 1) := by decide +kernel
theorem dX1_judgeWhole_130 : decode cX1_judgeWhole 130 = .ok (.ifCond .le 14, 3) := by decide +kernel
theorem dX1_judgeWhole_133 : decode cX1_judgeWhole 133 = .ok (.lload_n 2, 1) := by decide +kernel
theorem dX1_judgeWhole_134 : decode cX1_judgeWhole 134 = .ok (.ldc2_w 146, 3) := by decide +kernel
theorem dX1_judgeWhole_137 : decode cX1_judgeWhole 137 = .ok (.lmul, 1) := by decide +kernel
theorem dX1_judgeWhole_138 : decode cX1_judgeWhole 138 = .ok (.lload 6, 2) := by decide +kernel
theorem dX1_judgeWhole_140 : decode cX1_judgeWhole 140 = .ok (.ldiv, 1) := by decide +kernel
theorem dX1_judgeWhole_141 : decode cX1_judgeWhole 141 = .ok (.goto 4, 3) := by decide +kernel
theorem dX1_judgeWhole_144 : decode cX1_judgeWhole 144 = .ok (.lconst 0, 1) := by decide +kernel
theorem dX1_judgeWhole_145 : decode cX1_judgeWhole 145 = .ok (.lstore 8, 2) := by decide +kernel
theorem dX1_judgeWhole_147 : decode cX1_judgeWhole 147 = .ok (.aload_n 0, 1) := by decide +kernel
theorem dX1_judgeWhole_148 : decode cX1_judgeWhole 148 = .ok (.getfield 41, 3) := by decide +kernel
theorem dX1_judgeWhole_151 : decode cX1_judgeWhole 151 = .ok (.getfield 54, 3) := by decide +kernel
theorem dX1_judgeWhole_154 : decode cX1_judgeWhole 154 = .ok (.getstatic 148, 3) := by decide +kernel
theorem dX1_judgeWhole_157 : decode cX1_judgeWhole 157 = .ok (.if_acmp .ne 8, 3) := by decide +kernel
theorem dX1_judgeWhole_160 : decode cX1_judgeWhole 160 = .ok (.lload 8, 2) := by decide +kernel
theorem dX1_judgeWhole_162 : decode cX1_judgeWhole 162 = .ok (.goto 6, 3) := by decide +kernel
theorem dX1_judgeWhole_165 : decode cX1_judgeWhole 165 = .ok (.iload 4, 2) := by decide +kernel
theorem dX1_judgeWhole_167 : decode cX1_judgeWhole 167 = .ok (.i2l, 1) := by decide +kernel
theorem dX1_judgeWhole_168 : decode cX1_judgeWhole 168 = .ok (.lstore 10, 2) := by decide +kernel
theorem dX1_judgeWhole_170 : decode cX1_judgeWhole 170 = .ok (.lload 10, 2) := by decide +kernel
theorem dX1_judgeWhole_172 : decode cX1_judgeWhole 172 = .ok (.aload_n 0, 1) := by decide +kernel
theorem dX1_judgeWhole_173 : decode cX1_judgeWhole 173 = .ok (.getfield 41, 3) := by decide +kernel
theorem dX1_judgeWhole_176 : decode cX1_judgeWhole 176 = .ok (.getfield 151, 3) := by decide +kernel
theorem dX1_judgeWhole_179 : decode cX1_judgeWhole 179 = .ok (.i2l, 1) := by decide +kernel
theorem dX1_judgeWhole_180 : decode cX1_judgeWhole 180 = .ok (.lcmp, 1) := by decide +kernel
theorem dX1_judgeWhole_181 : decode cX1_judgeWhole 181 = .ok (.ifCond .ge 30, 3) := by decide +kernel
theorem dX1_judgeWhole_184 : decode cX1_judgeWhole 184 = .ok (.aload_n 0, 1) := by decide +kernel
theorem dX1_judgeWhole_185 : decode cX1_judgeWhole 185 = .ok (.getfield 45, 3) := by decide +kernel
theorem dX1_judgeWhole_188 : decode cX1_judgeWhole 188 = .ok (.aload 5, 2) := by decide +kernel
theorem dX1_judgeWhole_190 : decode cX1_judgeWhole 190 = .ok (.iconst 0, 1) := by decide +kernel
theorem dX1_judgeWhole_191 : decode cX1_judgeWhole 191 = .ok (.iaload, 1) := by decide +kernel
theorem dX1_judgeWhole_192 : decode cX1_judgeWhole 192 = .ok (.aload 5, 2) := by decide +kernel
theorem dX1_judgeWhole_194 : decode cX1_judgeWhole 194 = .ok (.iconst 1, 1) := by decide +kernel
theorem dX1_judgeWhole_195 : decode cX1_judgeWhole 195 = .ok (.iaload, 1) := by decide +kernel
theorem dX1_judgeWhole_196 : decode cX1_judgeWhole 196 = .ok (.aload 5, 2) := by decide +kernel
theorem dX1_judgeWhole_198 : decode cX1_judgeWhole 198 = .ok (.iconst 2, 1) := by decide +kernel
theorem dX1_judgeWhole_199 : decode cX1_judgeWhole 199 = .ok (.iaload, 1) := by decide +kernel
theorem dX1_judgeWhole_200 : decode cX1_judgeWhole 200 = .ok (.aload 5, 2) := by decide +kernel
theorem dX1_judgeWhole_202 : decode cX1_judgeWhole 202 = .ok (.iconst 3, 1) := by decide +kernel
theorem dX1_judgeWhole_203 : decode cX1_judgeWhole 203 = .ok (.iaload, 1) := by decide +kernel
theorem dX1_judgeWhole_204 : decode cX1_judgeWhole 204 = .ok (.iconst (-1), 1) := by decide +kernel
theorem dX1_judgeWhole_205 : decode cX1_judgeWhole 205 = .ok (.iconst (-1), 1) := by decide +kernel
theorem dX1_judgeWhole_206 : decode cX1_judgeWhole 206 = .ok (.lload 10, 2) := by decide +kernel
theorem dX1_judgeWhole_208 : decode cX1_judgeWhole 208 = .ok (.invokevirtual 154, 3) := by decide +kernel
theorem dX1_judgeWhole_211 : decode cX1_judgeWhole 211 = .ok (.return_, 1) := by decide +kernel
set_option maxRecDepth 20000 in
theorem ggX8_spanAll_J7_fill_53178 : GoodIn wsX8_spanAll wsJ7_fill_53178 := goodIn_r _ [14] (by decide +kernel) (by decide +kernel)
theorem dX8_spanAll_0 : decode cX8_spanAll 0 = .ok (.aload_n 0, 1) := by decide +kernel
theorem dX8_spanAll_1 : decode cX8_spanAll 1 = .ok (.getfield 30, 3) := by decide +kernel
theorem dX8_spanAll_4 : decode cX8_spanAll 4 = .ok (.iconst 0, 1) := by decide +kernel
theorem dX8_spanAll_5 : decode cX8_spanAll 5 = .ok (.invokestatic 185, 3) := by decide +kernel
theorem dX8_spanAll_8 : decode cX8_spanAll 8 = .ok (.iconst 0, 1) := by decide +kernel
theorem dX8_spanAll_9 : decode cX8_spanAll 9 = .ok (.istore_n 1, 1) := by decide +kernel
theorem dX8_spanAll_10 : decode cX8_spanAll 10 = .ok (.iload_n 1, 1) := by decide +kernel
theorem dX8_spanAll_11 : decode cX8_spanAll 11 = .ok (.aload_n 0, 1) := by decide +kernel
theorem dX8_spanAll_12 : decode cX8_spanAll 12 = .ok (.getfield 56, 3) := by decide +kernel
theorem dX8_spanAll_15 : decode cX8_spanAll 15 = .ok (.if_icmp .ge 101, 3) := by decide +kernel
theorem dX8_spanAll_18 : decode cX8_spanAll 18 = .ok (.iconst 0, 1) := by decide +kernel
theorem dX8_spanAll_19 : decode cX8_spanAll 19 = .ok (.istore_n 2, 1) := by decide +kernel
theorem dX8_spanAll_20 : decode cX8_spanAll 20 = .ok (.iload_n 2, 1) := by decide +kernel
theorem dX8_spanAll_21 : decode cX8_spanAll 21 = .ok (.iconst 2, 1) := by decide +kernel
theorem dX8_spanAll_22 : decode cX8_spanAll 22 = .ok (.if_icmp .ge 88, 3) := by decide +kernel
theorem dX8_spanAll_25 : decode cX8_spanAll 25 = .ok (.aload_n 0, 1) := by decide +kernel
theorem dX8_spanAll_26 : decode cX8_spanAll 26 = .ok (.getfield 27, 3) := by decide +kernel
theorem dX8_spanAll_29 : decode cX8_spanAll 29 = .ok (.iload_n 1, 1) := by decide +kernel
theorem dX8_spanAll_30 : decode cX8_spanAll 30 = .ok (.iconst 4, 1) := by decide +kernel
theorem dX8_spanAll_31 : decode cX8_spanAll 31 = .ok (.imul, 1) := by decide +kernel
theorem dX8_spanAll_32 : decode cX8_spanAll 32 = .ok (.iload_n 2, 1) := by decide +kernel
theorem dX8_spanAll_33 : decode cX8_spanAll 33 = .ok (.iadd, 1) := by decide +kernel
theorem dX8_spanAll_34 : decode cX8_spanAll 34 = .ok (.iaload, 1) := by decide +kernel
theorem dX8_spanAll_35 : decode cX8_spanAll 35 = .ok (.istore_n 3, 1) := by decide +kernel
theorem dX8_spanAll_36 : decode cX8_spanAll 36 = .ok (.aload_n 0, 1) := by decide +kernel
theorem dX8_spanAll_37 : decode cX8_spanAll 37 = .ok (.getfield 27, 3) := by decide +kernel
theorem dX8_spanAll_40 : decode cX8_spanAll 40 = .ok (.iload_n 1, 1) := by decide +kernel
theorem dX8_spanAll_41 : decode cX8_spanAll 41 = .ok (.iconst 4, 1) := by decide +kernel
theorem dX8_spanAll_42 : decode cX8_spanAll 42 = .ok (.imul, 1) := by decide +kernel
theorem dX8_spanAll_43 : decode cX8_spanAll 43 = .ok (.iload_n 2, 1) := by decide +kernel
theorem dX8_spanAll_44 : decode cX8_spanAll 44 = .ok (.iadd, 1) := by decide +kernel
theorem dX8_spanAll_45 : decode cX8_spanAll 45 = .ok (.iconst 2, 1) := by decide +kernel
theorem dX8_spanAll_46 : decode cX8_spanAll 46 = .ok (.iadd, 1) := by decide +kernel
theorem dX8_spanAll_47 : decode cX8_spanAll 47 = .ok (.iaload, 1) := by decide +kernel
theorem dX8_spanAll_48 : decode cX8_spanAll 48 = .ok (.istore 4, 2) := by decide +kernel
theorem dX8_spanAll_50 : decode cX8_spanAll 50 = .ok (.aload_n 0, 1) := by decide +kernel
theorem dX8_spanAll_51 : decode cX8_spanAll 51 = .ok (.getfield 30, 3) := by decide +kernel
theorem dX8_spanAll_54 : decode cX8_spanAll 54 = .ok (.iload_n 2, 1) := by decide +kernel
theorem dX8_spanAll_55 : decode cX8_spanAll 55 = .ok (.iload_n 1, 1) := by decide +kernel
theorem dX8_spanAll_56 : decode cX8_spanAll 56 = .ok (.ifCond .ne 7, 3) := by decide +kernel
theorem dX8_spanAll_59 : decode cX8_spanAll 59 = .ok (.iload_n 3, 1) := by decide +kernel
theorem dX8_spanAll_60 : decode cX8_spanAll 60 = .ok (.goto 13, 3) := by decide +kernel
theorem dX8_spanAll_63 : decode cX8_spanAll 63 = .ok (.aload_n 0, 1) := by decide +kernel
theorem dX8_spanAll_64 : decode cX8_spanAll 64 = .ok (.getfield 30, 3) := by decide +kernel
theorem dX8_spanAll_67 : decode cX8_spanAll 67 = .ok (.iload_n 2, 1) := by decide +kernel
theorem dX8_spanAll_68 : decode cX8_spanAll 68 = .ok (.iaload, 1) := by decide +kernel
theorem dX8_spanAll_69 : decode cX8_spanAll 69 = .ok (.iload_n 3, 1) := by decide +kernel
theorem dX8_spanAll_70 : decode cX8_spanAll 70 = .ok (.invokestatic 161, 3) := by decide +kernel
theorem dX8_spanAll_73 : decode cX8_spanAll 73 = .ok (.iastore, 1) := by decide +kernel
theorem dX8_spanAll_74 : decode cX8_spanAll 74 = .ok (.aload_n 0, 1) := by decide +kernel
theorem dX8_spanAll_75 : decode cX8_spanAll 75 = .ok (.getfield 30, 3) := by decide +kernel
theorem dX8_spanAll_78 : decode cX8_spanAll 78 = .ok (.iload_n 2, 1) := by decide +kernel
theorem dX8_spanAll_79 : decode cX8_spanAll 79 = .ok (.iconst 2, 1) := by decide +kernel
theorem dX8_spanAll_80 : decode cX8_spanAll 80 = .ok (.iadd, 1) := by decide +kernel
theorem dX8_spanAll_81 : decode cX8_spanAll 81 = .ok (.iload_n 1, 1) := by decide +kernel
theorem dX8_spanAll_82 : decode cX8_spanAll 82 = .ok (.ifCond .ne 8, 3) := by decide +kernel
theorem dX8_spanAll_85 : decode cX8_spanAll 85 = .ok (.iload 4, 2) := by decide +kernel
theorem dX8_spanAll_87 : decode cX8_spanAll 87 = .ok (.goto 16, 3) := by decide +kernel
theorem dX8_spanAll_90 : decode cX8_spanAll 90 = .ok (.aload_n 0, 1) := by decide +kernel
theorem dX8_spanAll_91 : decode cX8_spanAll 91 = .ok (.getfield 30, 3) := by decide +kernel
theorem dX8_spanAll_94 : decode cX8_spanAll 94 = .ok (.iload_n 2, 1) := by decide +kernel
theorem dX8_spanAll_95 : decode cX8_spanAll 95 = .ok (.iconst 2, 1) := by decide +kernel
theorem dX8_spanAll_96 : decode cX8_spanAll 96 = .ok (.iadd, 1) := by decide +kernel
theorem dX8_spanAll_97 : decode cX8_spanAll 97 = .ok (.iaload, 1) := by decide +kernel
theorem dX8_spanAll_98 : decode cX8_spanAll 98 = .ok (.iload 4, 2) := by decide +kernel
theorem dX8_spanAll_100 : decode cX8_spanAll 100 = .ok (.invokestatic 166, 3) := by decide +kernel
theorem dX8_spanAll_103 : decode cX8_spanAll 103 = .ok (.iastore, 1) := by decide +kernel
theorem dX8_spanAll_104 : decode cX8_spanAll 104 = .ok (.iinc 2 1, 3) := by decide +kernel
theorem dX8_spanAll_107 : decode cX8_spanAll 107 = .ok (.goto (-87), 3) := by decide +kernel
theorem dX8_spanAll_110 : decode cX8_spanAll 110 = .ok (.iinc 1 1, 3) := by decide +kernel
theorem dX8_spanAll_113 : decode cX8_spanAll 113 = .ok (.goto (-103), 3) := by decide +kernel
theorem dX8_spanAll_116 : decode cX8_spanAll 116 = .ok (.return_, 1) := by decide +kernel

abbrev mX8_spanAll : sv_M := (cX8_spanAll, 5, yX8_spanAll, wsX8_spanAll, none, { frames := 2, cells := 0, slots := 0, locals := 60 }, [])
abbrev mX1_judgeWhole : sv_M := (cX1_judgeWhole, 12, yX1_judgeWhole, wsX1_judgeWhole, none, { frames := 27, cells := 0, slots := 0, locals := 700 }, [])
/-- the box of the first n boxes -/
def spn (B : Nat → Nat → Int) : Nat → Nat → Int | 0, _ => 0 | n + 1, j => if n = 0 then B 0 j else if j < 2 then min (spn B n j) (B n j) else max (spn B n j) (B n j)
theorem spn_b {B : Nat → Nat → Int} {m : Nat} (h : ∀ i, i < m → ∀ j, -200000 ≤ B i j ∧ B i j ≤ 200000) : ∀ n, n ≤ m → ∀ j, -200000 ≤ spn B n j ∧ spn B n j ≤ 200000 := by
  intro n
  induction n with
  | zero => intro _ j; exact ⟨by show -200000 ≤ (0 : Int); decide, by show (0 : Int) ≤ 200000; decide⟩
  | succ n ih =>
    intro hn j
    have a := ih (by omega) j
    have c := h n (by omega) j
    have d := h 0 (by omega) j
    show -200000 ≤ (if n = 0 then B 0 j else if j < 2 then min (spn B n j) (B n j) else max (spn B n j) (B n j)) ∧ (if n = 0 then B 0 j else if j < 2 then min (spn B n j) (B n j) else max (spn B n j) (B n j)) ≤ 200000
    repeat' split
    all_goals omega
theorem spn_s {B : Nat → Nat → Int} {n : Nat} (h : n ≠ 0) (j : Nat) : spn B (n + 1) j = if j < 2 then min (spn B n j) (B n j) else max (spn B n j) (B n j) := if_neg h
theorem spn_1 {B : Nat → Nat → Int} (j : Nat) : spn B (0 + 1) j = B 0 j := if_pos rfl
set_option maxHeartbeats 4000000 in
set_option maxRecDepth 100000 in
theorem l_spI (G : sv_G) (Qr : Option Value → sv_h → Nat → Prop) (z b n : Nat) (B : Nat → Nat → Int) (hb : sv_h) (hs : hb (b + 35) = some (.inr (6, [.ref (b + 1), .ref (b + 36), .int (nI n), .ref (b + 37), .ref (b + 38), .ref (b + 39), .ref (b + 40), .ref (b + 41), .ref (b + 42), .ref (b + 43), .ref (b + 44), .ref (b + 45), .ref (b + 46), .ref (b + 47)]))) (fb : Nat → Int32) (hb40 : ab_I G hb (b + 40) 400 fb) (hbx : ∀ i, i < n → ∀ j, j < 4 → fb (4 * i + j) = iN (B i j)) (hB : ∀ i, i < n → ∀ j, -200000 ≤ B i j ∧ B i j ≤ 200000) (hn : n ≤ 100) (i : Nat) (hi : i < n) (hk : ∀ (h : sv_h) (fp : Nat → Int32), ab_I G h (b + 41) 4 fp → (∀ j, j < 4 → fp j = iN (spn B (i + 1) j)) → (∀ a, a ≠ b + 41 → h a = hb a) → V G mX8_spanAll (sv_MQ G mX8_spanAll Qr) 110 [(1, .int (nI i)), (0, .ref (b + 35))] [] h z 0 0) : ∀ (e ax : Nat) (h : sv_h) (fp : Nat → Int32), ax + e = 2 → ab_I G h (b + 41) 4 fp → (∀ j, j < 4 → fp j = iN (if j % 2 < ax then spn B (i + 1) j else spn B i j)) → (∀ a, a ≠ b + 41 → h a = hb a) → V G mX8_spanAll (sv_MQ G mX8_spanAll Qr) 20 [(2, .int (nI ax)), (1, .int (nI i)), (0, .ref (b + 35))] [] h z 0 0 := by
  intro e
  induction e with
  | zero =>
    intro ax h fp hae h41 hfp fr
    have w35 := (fr (b + 35) (by omega)).trans hs
    have w40 : ab_I G h (b + 40) 400 fb := (fr (b + 40) (by omega)).trans hb40
    refine v_iload_n dX8_spanAll_20 rfl 0 rfl ?_
    refine v_iconst (v := 2) dX8_spanAll_21 (by decide) ?_
    refine v_icmp_ge (tgt := 110) dX8_spanAll_22 (by decide) (fun c_22 => ?_) (fun c_22 => ?_)
    · refine v_sub (L' := [(1, _), (0, _)]) [1, 2] rfl ?_
      exact hk h fp h41 (fun j hj => (hfp j hj).trans (by rw [if_pos (by omega)])) fr
    · exact absurd (nI_le (show 2 ≤ ax by omega) (by omega)) c_22
  | succ e ih =>
    intro ax h fp hae h41 hfp fr
    have w35 := (fr (b + 35) (by omega)).trans hs
    have w40 : ab_I G h (b + 40) 400 fb := (fr (b + 40) (by omega)).trans hb40
    have hax : ax < 2 := by omega
    have bi := hB i hi
    have bs1 := spn_b hB i (by omega)
    by_cases h0i : i = 0
    · refine v_iload_n dX8_spanAll_20 rfl 0 rfl ?_
      refine v_iconst (v := 2) dX8_spanAll_21 (by decide) ?_
      refine v_icmp_ge (tgt := 110) dX8_spanAll_22 (by decide) (fun c_22 => ?_) (fun c_22 => ?_)
      · exact absurd c_22 (nI_ge (a := ax) (b := 2) hax (by omega))
      · refine v_aload_n dX8_spanAll_25 rfl 2 rfl ?_
        refine v_getf 6 (ci := 6) (C := RX8) (T := TX8) (N := 14) rfl iwX8_spanAll_X8 (Nat.le_of_ble_eq_true rfl) (by decide +kernel) dX8_spanAll_26 (by repeat (first | with_reducible assumption | (with_reducible refine sv_us.trans ?_; exact rfl) | with_reducible refine (sv_un (by omega)).trans ?_)) (by exact rfl) ?_
        refine v_iload_n dX8_spanAll_29 rfl 1 rfl ?_
        refine v_iconst (v := 4) dX8_spanAll_30 (by decide) ?_
        refine v_imul dX8_spanAll_31 ?_
        refine v_iload_n dX8_spanAll_32 rfl 0 rfl ?_
        refine v_iadd dX8_spanAll_33 ?_
        rw [sv_4 i ax]
        refine v_ialdS (v := iN (B i ax)) dX8_spanAll_34 (by repeat (first | with_reducible assumption | (with_reducible refine sv_us.trans ?_; exact rfl) | with_reducible refine (sv_un (by omega)).trans ?_)) (vp_in_nI (by omega) (by omega)) (by rw [nI_clamp (by omega)]; exact hbx i hi ax (by omega)) ?_
        refine v_istore_n (L' := [(3, _), (2, _), (1, _), (0, _)]) dX8_spanAll_35 rfl (Nat.le_of_ble_eq_true rfl) rfl ?_
        refine v_aload_n dX8_spanAll_36 rfl 3 rfl ?_
        refine v_getf 6 (ci := 6) (C := RX8) (T := TX8) (N := 14) rfl iwX8_spanAll_X8 (Nat.le_of_ble_eq_true rfl) (by decide +kernel) dX8_spanAll_37 (by repeat (first | with_reducible assumption | (with_reducible refine sv_us.trans ?_; exact rfl) | with_reducible refine (sv_un (by omega)).trans ?_)) (by exact rfl) ?_
        refine v_iload_n dX8_spanAll_40 rfl 2 rfl ?_
        refine v_iconst (v := 4) dX8_spanAll_41 (by decide) ?_
        refine v_imul dX8_spanAll_42 ?_
        refine v_iload_n dX8_spanAll_43 rfl 1 rfl ?_
        refine v_iadd dX8_spanAll_44 ?_
        refine v_iconst (v := 2) dX8_spanAll_45 (by decide) ?_
        refine v_iadd dX8_spanAll_46 ?_
        rw [sv_4 i ax, show nI (4 * i + ax) + 2 = nI (4 * i + (ax + 2)) from nI_add (4 * i + ax) 2]
        refine v_ialdS (v := iN (B i (ax + 2))) dX8_spanAll_47 (by repeat (first | with_reducible assumption | (with_reducible refine sv_us.trans ?_; exact rfl) | with_reducible refine (sv_un (by omega)).trans ?_)) (vp_in_nI (by omega) (by omega)) (by rw [nI_clamp (by omega)]; exact hbx i hi (ax + 2) (by omega)) ?_
        refine v_istore (L' := [(4, _), (3, _), (2, _), (1, _), (0, _)]) dX8_spanAll_48 (Nat.le_of_ble_eq_true rfl) rfl ?_
        refine v_aload_n dX8_spanAll_50 rfl 4 rfl ?_
        refine v_getf 7 (ci := 6) (C := RX8) (T := TX8) (N := 14) rfl iwX8_spanAll_X8 (Nat.le_of_ble_eq_true rfl) (by decide +kernel) dX8_spanAll_51 (by repeat (first | with_reducible assumption | (with_reducible refine sv_us.trans ?_; exact rfl) | with_reducible refine (sv_un (by omega)).trans ?_)) (by exact rfl) ?_
        refine v_iload_n dX8_spanAll_54 rfl 2 rfl ?_
        refine v_iload_n dX8_spanAll_55 rfl 3 rfl ?_
        refine v_if_ne (tgt := 63) dX8_spanAll_56 (by decide) (fun c_56 => ?_) (fun c_56 => ?_)
        · exact absurd (by rw [h0i]; exact nI_0) c_56
        · refine v_iload_n dX8_spanAll_59 rfl 1 rfl ?_
          refine v_goto (tgt := 73) dX8_spanAll_60 (by decide) ?_
          refine v_iast dX8_spanAll_73 (by repeat (first | with_reducible assumption | (with_reducible refine sv_us.trans ?_; exact rfl) | with_reducible refine (sv_un (by omega)).trans ?_)) (vp_in_nI (by omega) (by omega)) ?_
          refine v_aload_n dX8_spanAll_74 rfl 4 rfl ?_
          refine v_getf 7 (ci := 6) (C := RX8) (T := TX8) (N := 14) rfl iwX8_spanAll_X8 (Nat.le_of_ble_eq_true rfl) (by decide +kernel) dX8_spanAll_75 (by repeat (first | with_reducible assumption | (with_reducible refine sv_us.trans ?_; exact rfl) | with_reducible refine (sv_un (by omega)).trans ?_)) (by exact rfl) ?_
          refine v_iload_n dX8_spanAll_78 rfl 2 rfl ?_
          refine v_iconst (v := 2) dX8_spanAll_79 (by decide) ?_
          refine v_iadd dX8_spanAll_80 ?_
          refine v_iload_n dX8_spanAll_81 rfl 3 rfl ?_
          refine v_if_ne (tgt := 90) dX8_spanAll_82 (by decide) (fun c_82 => ?_) (fun c_82 => ?_)
          · exact absurd (by rw [h0i]; exact nI_0) c_82
          · refine v_iload dX8_spanAll_85 0 rfl ?_
            refine v_goto (tgt := 103) dX8_spanAll_87 (by decide) ?_
            rw [show nI ax + 2 = nI (ax + 2) from nI_add ax 2]
            refine v_iast dX8_spanAll_103 (by repeat (first | with_reducible assumption | (with_reducible refine sv_us.trans ?_; exact rfl) | with_reducible refine (sv_un (by omega)).trans ?_)) (vp_in_nI (by omega) (by omega)) ?_
            refine v_iinc (j := 2) (L' := [(2, _), (4, _), (3, _), (1, _), (0, _)]) (v := nI (ax + 1)) dX8_spanAll_104 rfl (nI_1 _) (Nat.le_of_ble_eq_true rfl) rfl ?_
            refine v_goto (tgt := 20) dX8_spanAll_107 (by decide) ?_
            refine v_sub (L' := [(2, _), (1, _), (0, _)]) [0, 3, 4] rfl ?_
            rw [show (nI ax).toNatClampNeg = ax from nI_clamp (by omega), show (nI (ax + 2)).toNatClampNeg = ax + 2 from nI_clamp (by omega)]
            refine ih (ax + 1) _ (upd (upd fp ax _) (ax + 2) _) (by omega) sv_us (fun j hj => ?_) (fun a p => (sv_un p).trans ((sv_un p).trans (fr a p)))
            by_cases e2 : j = ax + 2
            · rw [e2, if_pos (show (ax + 2) % 2 < ax + 1 by omega)]
              refine (if_pos rfl).trans (congrArg iN ?_)
              subst h0i; exact (spn_1 _).symm
            · refine (if_neg e2).trans ?_
              by_cases e1 : j = ax
              · rw [e1, if_pos (show ax % 2 < ax + 1 by omega)]
                refine (if_pos rfl).trans (congrArg iN ?_)
                subst h0i; exact (spn_1 _).symm
              · refine (if_neg e1).trans ((hfp j hj).trans (congrArg iN ?_))
                by_cases e3 : j % 2 < ax
                · rw [if_pos e3, if_pos (by omega)]
                · rw [if_neg e3, if_neg (by omega)]
    · refine v_iload_n dX8_spanAll_20 rfl 0 rfl ?_
      refine v_iconst (v := 2) dX8_spanAll_21 (by decide) ?_
      refine v_icmp_ge (tgt := 110) dX8_spanAll_22 (by decide) (fun c_22 => ?_) (fun c_22 => ?_)
      · exact absurd c_22 (nI_ge (a := ax) (b := 2) hax (by omega))
      · refine v_aload_n dX8_spanAll_25 rfl 2 rfl ?_
        refine v_getf 6 (ci := 6) (C := RX8) (T := TX8) (N := 14) rfl iwX8_spanAll_X8 (Nat.le_of_ble_eq_true rfl) (by decide +kernel) dX8_spanAll_26 (by repeat (first | with_reducible assumption | (with_reducible refine sv_us.trans ?_; exact rfl) | with_reducible refine (sv_un (by omega)).trans ?_)) (by exact rfl) ?_
        refine v_iload_n dX8_spanAll_29 rfl 1 rfl ?_
        refine v_iconst (v := 4) dX8_spanAll_30 (by decide) ?_
        refine v_imul dX8_spanAll_31 ?_
        refine v_iload_n dX8_spanAll_32 rfl 0 rfl ?_
        refine v_iadd dX8_spanAll_33 ?_
        rw [sv_4 i ax]
        refine v_ialdS (v := iN (B i ax)) dX8_spanAll_34 (by repeat (first | with_reducible assumption | (with_reducible refine sv_us.trans ?_; exact rfl) | with_reducible refine (sv_un (by omega)).trans ?_)) (vp_in_nI (by omega) (by omega)) (by rw [nI_clamp (by omega)]; exact hbx i hi ax (by omega)) ?_
        refine v_istore_n (L' := [(3, _), (2, _), (1, _), (0, _)]) dX8_spanAll_35 rfl (Nat.le_of_ble_eq_true rfl) rfl ?_
        refine v_aload_n dX8_spanAll_36 rfl 3 rfl ?_
        refine v_getf 6 (ci := 6) (C := RX8) (T := TX8) (N := 14) rfl iwX8_spanAll_X8 (Nat.le_of_ble_eq_true rfl) (by decide +kernel) dX8_spanAll_37 (by repeat (first | with_reducible assumption | (with_reducible refine sv_us.trans ?_; exact rfl) | with_reducible refine (sv_un (by omega)).trans ?_)) (by exact rfl) ?_
        refine v_iload_n dX8_spanAll_40 rfl 2 rfl ?_
        refine v_iconst (v := 4) dX8_spanAll_41 (by decide) ?_
        refine v_imul dX8_spanAll_42 ?_
        refine v_iload_n dX8_spanAll_43 rfl 1 rfl ?_
        refine v_iadd dX8_spanAll_44 ?_
        refine v_iconst (v := 2) dX8_spanAll_45 (by decide) ?_
        refine v_iadd dX8_spanAll_46 ?_
        rw [sv_4 i ax, show nI (4 * i + ax) + 2 = nI (4 * i + (ax + 2)) from nI_add (4 * i + ax) 2]
        refine v_ialdS (v := iN (B i (ax + 2))) dX8_spanAll_47 (by repeat (first | with_reducible assumption | (with_reducible refine sv_us.trans ?_; exact rfl) | with_reducible refine (sv_un (by omega)).trans ?_)) (vp_in_nI (by omega) (by omega)) (by rw [nI_clamp (by omega)]; exact hbx i hi (ax + 2) (by omega)) ?_
        refine v_istore (L' := [(4, _), (3, _), (2, _), (1, _), (0, _)]) dX8_spanAll_48 (Nat.le_of_ble_eq_true rfl) rfl ?_
        refine v_aload_n dX8_spanAll_50 rfl 4 rfl ?_
        refine v_getf 7 (ci := 6) (C := RX8) (T := TX8) (N := 14) rfl iwX8_spanAll_X8 (Nat.le_of_ble_eq_true rfl) (by decide +kernel) dX8_spanAll_51 (by repeat (first | with_reducible assumption | (with_reducible refine sv_us.trans ?_; exact rfl) | with_reducible refine (sv_un (by omega)).trans ?_)) (by exact rfl) ?_
        refine v_iload_n dX8_spanAll_54 rfl 2 rfl ?_
        refine v_iload_n dX8_spanAll_55 rfl 3 rfl ?_
        refine v_if_ne (tgt := 63) dX8_spanAll_56 (by decide) (fun c_56 => ?_) (fun c_56 => ?_)
        · refine v_aload_n dX8_spanAll_63 rfl 4 rfl ?_
          refine v_getf 7 (ci := 6) (C := RX8) (T := TX8) (N := 14) rfl iwX8_spanAll_X8 (Nat.le_of_ble_eq_true rfl) (by decide +kernel) dX8_spanAll_64 (by repeat (first | with_reducible assumption | (with_reducible refine sv_us.trans ?_; exact rfl) | with_reducible refine (sv_un (by omega)).trans ?_)) (by exact rfl) ?_
          refine v_iload_n dX8_spanAll_67 rfl 2 rfl ?_
          refine v_ialdS (v := iN (spn B i ax)) dX8_spanAll_68 (by repeat (first | with_reducible assumption | (with_reducible refine sv_us.trans ?_; exact rfl) | with_reducible refine (sv_un (by omega)).trans ?_)) (vp_in_nI (by omega) (by omega)) (by rw [nI_clamp (by omega)]; exact (hfp ax (by omega)).trans (by rw [if_neg (by omega)])) ?_
          refine v_iload_n dX8_spanAll_69 rfl 1 rfl ?_
          refine v_mmin (by decide +kernel) (by decide +kernel) (by decide +kernel) (by decide +kernel) dX8_spanAll_70 (Nat.le_of_ble_eq_true rfl) (Nat.le_of_ble_eq_true rfl) (Nat.le_of_ble_eq_true rfl) (Nat.le_of_ble_eq_true rfl) ?_
          rw [gmI_min (by have := bs1 ax; omega) (by have := bi ax; omega)]
          refine v_iast dX8_spanAll_73 (by repeat (first | with_reducible assumption | (with_reducible refine sv_us.trans ?_; exact rfl) | with_reducible refine (sv_un (by omega)).trans ?_)) (vp_in_nI (by omega) (by omega)) ?_
          refine v_aload_n dX8_spanAll_74 rfl 4 rfl ?_
          refine v_getf 7 (ci := 6) (C := RX8) (T := TX8) (N := 14) rfl iwX8_spanAll_X8 (Nat.le_of_ble_eq_true rfl) (by decide +kernel) dX8_spanAll_75 (by repeat (first | with_reducible assumption | (with_reducible refine sv_us.trans ?_; exact rfl) | with_reducible refine (sv_un (by omega)).trans ?_)) (by exact rfl) ?_
          refine v_iload_n dX8_spanAll_78 rfl 2 rfl ?_
          refine v_iconst (v := 2) dX8_spanAll_79 (by decide) ?_
          refine v_iadd dX8_spanAll_80 ?_
          refine v_iload_n dX8_spanAll_81 rfl 3 rfl ?_
          refine v_if_ne (tgt := 90) dX8_spanAll_82 (by decide) (fun c_82 => ?_) (fun c_82 => ?_)
          · refine v_aload_n dX8_spanAll_90 rfl 4 rfl ?_
            refine v_getf 7 (ci := 6) (C := RX8) (T := TX8) (N := 14) rfl iwX8_spanAll_X8 (Nat.le_of_ble_eq_true rfl) (by decide +kernel) dX8_spanAll_91 (by repeat (first | with_reducible assumption | (with_reducible refine sv_us.trans ?_; exact rfl) | with_reducible refine (sv_un (by omega)).trans ?_)) (by exact rfl) ?_
            refine v_iload_n dX8_spanAll_94 rfl 2 rfl ?_
            refine v_iconst (v := 2) dX8_spanAll_95 (by decide) ?_
            refine v_iadd dX8_spanAll_96 ?_
            rw [show nI ax + 2 = nI (ax + 2) from nI_add ax 2]
            refine v_ialdS (v := iN (spn B i (ax + 2))) dX8_spanAll_97 (by repeat (first | with_reducible assumption | (with_reducible refine sv_us.trans ?_; exact rfl) | with_reducible refine (sv_un (by omega)).trans ?_)) (vp_in_nI (by omega) (by omega)) (by rw [nI_clamp (by omega), nI_clamp (by omega)]; exact (if_neg (by omega)).trans ((hfp (ax + 2) (by omega)).trans (by rw [if_neg (by omega)]))) ?_
            refine v_iload dX8_spanAll_98 0 rfl ?_
            refine v_mmax (by decide +kernel) (by decide +kernel) (by decide +kernel) (by decide +kernel) dX8_spanAll_100 (Nat.le_of_ble_eq_true rfl) (Nat.le_of_ble_eq_true rfl) (Nat.le_of_ble_eq_true rfl) (Nat.le_of_ble_eq_true rfl) ?_
            rw [gmI_max (by have := bs1 (ax + 2); omega) (by have := bi (ax + 2); omega)]
            refine v_iast dX8_spanAll_103 (by repeat (first | with_reducible assumption | (with_reducible refine sv_us.trans ?_; exact rfl) | with_reducible refine (sv_un (by omega)).trans ?_)) (vp_in_nI (by omega) (by omega)) ?_
            refine v_iinc (j := 2) (L' := [(2, _), (4, _), (3, _), (1, _), (0, _)]) (v := nI (ax + 1)) dX8_spanAll_104 rfl (nI_1 _) (Nat.le_of_ble_eq_true rfl) rfl ?_
            refine v_goto (tgt := 20) dX8_spanAll_107 (by decide) ?_
            refine v_sub (L' := [(2, _), (1, _), (0, _)]) [0, 3, 4] rfl ?_
            rw [show (nI ax).toNatClampNeg = ax from nI_clamp (by omega), show (nI (ax + 2)).toNatClampNeg = ax + 2 from nI_clamp (by omega)]
            refine ih (ax + 1) _ (upd (upd fp ax _) (ax + 2) _) (by omega) sv_us (fun j hj => ?_) (fun a p => (sv_un p).trans ((sv_un p).trans (fr a p)))
            by_cases e2 : j = ax + 2
            · rw [e2, if_pos (show (ax + 2) % 2 < ax + 1 by omega)]
              refine (if_pos rfl).trans (congrArg iN ?_)
              rw [spn_s h0i, if_neg (by omega)]
            · refine (if_neg e2).trans ?_
              by_cases e1 : j = ax
              · rw [e1, if_pos (show ax % 2 < ax + 1 by omega)]
                refine (if_pos rfl).trans (congrArg iN ?_)
                rw [spn_s h0i, if_pos (by omega)]
              · refine (if_neg e1).trans ((hfp j hj).trans (congrArg iN ?_))
                by_cases e3 : j % 2 < ax
                · rw [if_pos e3, if_pos (by omega)]
                · rw [if_neg e3, if_neg (by omega)]
          · exact absurd c_82 (nI_ne0 (by omega) (by omega))
        · exact absurd c_56 (nI_ne0 (by omega) (by omega))

set_option maxHeartbeats 4000000 in
set_option maxRecDepth 100000 in
theorem l_spO (G : sv_G) (Qr : Option Value → sv_h → Nat → Prop) (z b n : Nat) (B : Nat → Nat → Int) (hb : sv_h) (hs : hb (b + 35) = some (.inr (6, [.ref (b + 1), .ref (b + 36), .int (nI n), .ref (b + 37), .ref (b + 38), .ref (b + 39), .ref (b + 40), .ref (b + 41), .ref (b + 42), .ref (b + 43), .ref (b + 44), .ref (b + 45), .ref (b + 46), .ref (b + 47)]))) (fb : Nat → Int32) (hb40 : ab_I G hb (b + 40) 400 fb) (hbx : ∀ i, i < n → ∀ j, j < 4 → fb (4 * i + j) = iN (B i j)) (hB : ∀ i, i < n → ∀ j, -200000 ≤ B i j ∧ B i j ≤ 200000) (hn : n ≤ 100) (hk : ∀ (h : sv_h) (fp : Nat → Int32), ab_I G h (b + 41) 4 fp → (∀ j, j < 4 → fp j = iN (spn B n j)) → (∀ a, a ≠ b + 41 → h a = hb a) → Qr none h z) : ∀ (e i : Nat) (h : sv_h) (fp : Nat → Int32), i + e = n → ab_I G h (b + 41) 4 fp → (∀ j, j < 4 → fp j = iN (spn B i j)) → (∀ a, a ≠ b + 41 → h a = hb a) → V G mX8_spanAll (sv_MQ G mX8_spanAll Qr) 10 [(1, .int (nI i)), (0, .ref (b + 35))] [] h z 0 0 := by
  intro e
  induction e with
  | zero =>
    intro i h fp hie h41 hfp fr
    have w35 := (fr (b + 35) (by omega)).trans hs
    have w40 : ab_I G h (b + 40) 400 fb := (fr (b + 40) (by omega)).trans hb40
    refine v_iload_n dX8_spanAll_10 rfl 0 rfl ?_
    refine v_aload_n dX8_spanAll_11 rfl 1 rfl ?_
    refine v_getf 2 (ci := 6) (C := RX8) (T := TX8) (N := 14) rfl iwX8_spanAll_X8 (Nat.le_of_ble_eq_true rfl) (by decide +kernel) dX8_spanAll_12 (by first | with_reducible assumption) rfl ?_
    refine v_icmp_ge (tgt := 116) dX8_spanAll_15 (by decide) (fun c_15 => ?_) (fun c_15 => ?_)
    · exact v_ret rfl dX8_spanAll_116 (Nat.le_of_ble_eq_true rfl) (Nat.le_of_ble_eq_true rfl) (hk h fp h41 (fun j hj => by rw [← show i = n by omega]; exact hfp j hj) fr)
    · exact absurd (nI_le (show n ≤ i by omega) (by omega)) c_15
  | succ e ih =>
    intro i h fp hie h41 hfp fr
    have w35 := (fr (b + 35) (by omega)).trans hs
    have w40 : ab_I G h (b + 40) 400 fb := (fr (b + 40) (by omega)).trans hb40
    refine v_iload_n dX8_spanAll_10 rfl 0 rfl ?_
    refine v_aload_n dX8_spanAll_11 rfl 1 rfl ?_
    refine v_getf 2 (ci := 6) (C := RX8) (T := TX8) (N := 14) rfl iwX8_spanAll_X8 (Nat.le_of_ble_eq_true rfl) (by decide +kernel) dX8_spanAll_12 (by first | with_reducible assumption) rfl ?_
    refine v_icmp_ge (tgt := 116) dX8_spanAll_15 (by decide) (fun c_15 => ?_) (fun c_15 => ?_)
    · exact absurd c_15 (nI_ge (show i < n by omega) (by omega))
    · refine v_iconst (v := 0) dX8_spanAll_18 (by decide) ?_
      refine v_istore_n (L' := [(2, _), (1, _), (0, _)]) dX8_spanAll_19 rfl (Nat.le_of_ble_eq_true rfl) rfl ?_
      refine v_sub (L' := [(2, _), (1, _), (0, _)]) [0, 1, 2] rfl ?_
      refine l_spI G Qr _ b n B hb hs fb hb40 hbx hB hn i (by omega) (fun h2 fp2 q1 q2 q3 => ?_) 2 0 h fp rfl h41 (fun j hj => (hfp j hj).trans (by rw [if_neg (Nat.not_lt_zero _)])) fr
      refine v_iinc (j := 0) (L' := [(1, _), (0, _)]) (v := nI (i + 1)) dX8_spanAll_110 rfl (nI_1 _) (Nat.le_of_ble_eq_true rfl) rfl ?_
      refine v_goto (tgt := 10) dX8_spanAll_113 (by decide) ?_
      refine v_sub (L' := [(1, _), (0, _)]) [0, 1] rfl ?_
      exact ih (i + 1) h2 fp2 (by omega) q1 q2 q3

set_option maxHeartbeats 4000000 in
set_option maxRecDepth 100000 in
theorem c_spanAll (G : sv_G) (z b n : Nat) (B : Nat → Nat → Int) (hb : sv_h) (hs : hb (b + 35) = some (.inr (6, [.ref (b + 1), .ref (b + 36), .int (nI n), .ref (b + 37), .ref (b + 38), .ref (b + 39), .ref (b + 40), .ref (b + 41), .ref (b + 42), .ref (b + 43), .ref (b + 44), .ref (b + 45), .ref (b + 46), .ref (b + 47)]))) (fb : Nat → Int32) (hb40 : ab_I G hb (b + 40) 400 fb) (hbx : ∀ i, i < n → ∀ j, j < 4 → fb (4 * i + j) = iN (B i j)) (hB : ∀ i, i < n → ∀ j, -200000 ≤ B i j ∧ B i j ≤ 200000) (hn : n ≤ 100) (f41 : Nat → Int32) (h41 : ab_I G hb (b + 41) 4 f41) : CT G mX8_spanAll [.ref (b + 35)] hb z (fun v h1 z1 => v = none ∧ z1 = z ∧ (∃ fp : Nat → Int32, ab_I G h1 (b + 41) 4 fp ∧ ∀ j, j < 4 → fp j = iN (spn B n j)) ∧ ∀ a, a ≠ b + 41 → h1 a = hb a) := by
  refine CT.of (by decide +kernel) rfl rfl (Nat.le_of_ble_eq_true rfl) ?_
  refine v_aload_n dX8_spanAll_0 rfl 0 rfl ?_
  refine v_getf 7 (ci := 6) (C := RX8) (T := TX8) (N := 14) rfl iwX8_spanAll_X8 (Nat.le_of_ble_eq_true rfl) (by decide +kernel) dX8_spanAll_1 (by first | with_reducible assumption) rfl ?_
  refine v_iconst (v := 0) dX8_spanAll_4 (by decide) ?_
  refine v_callSq (M' := mJ7_fill_53178) (n := 2) (As := [_, _]) ggX8_spanAll_J7_fill_53178 (by decide +kernel) (by decide +kernel) (by decide +kernel) rfl (by decide +kernel) ⟨(Nat.le_of_ble_eq_true rfl), (Nat.le_of_ble_eq_true rfl)⟩ dX8_spanAll_5 rfl ⟨(Nat.le_of_ble_eq_true rfl), (Nat.le_of_ble_eq_true rfl)⟩ (Nat.le_of_ble_eq_true rfl) rfl (c_fill G _ _ (b + 41) 4 0 f41 (by decide) h41) (fun v h1 z1 hq9 => ?_)
  obtain ⟨rfl, rfl, ⟨g1, j1, j2⟩, j3⟩ := hq9
  refine v_iconst (v := 0) dX8_spanAll_8 (by decide) ?_
  refine v_istore_n (L' := [(1, _), (0, _)]) dX8_spanAll_9 rfl (Nat.le_of_ble_eq_true rfl) rfl ?_
  refine v_sub (L' := [(1, _), (0, _)]) [0, 1] rfl ?_
  refine l_spO G _ _ b n B hb hs fb hb40 hbx hB hn (fun h2 fp2 q1 q2 q3 => ⟨rfl, rfl, ⟨fp2, q1, q2⟩, fun a p => q3 a p⟩) n 0 h1 g1 (Nat.zero_add _) j1 (fun j hj => (j2 j hj).trans (show (0 : Int32) = iN 0 from rfl)) (fun a p => j3 a p)

