section GU
variable {gu : Nat → Int64}
theorem iwX13_goThrough_X13 : ∀ w ∈ wsX130, w ∈ wsX13_goThrough := by decide +kernel
set_option maxRecDepth 20000 in
theorem ggX13_goThrough_X13_isOn : GoodIn wsX13_goThrough wsX13_isOn := goodIn_r _ [15, 16, 17, 132, 133, 134, 135, 136, 137, 138, 139, 140, 141, 142, 143, 144, 145, 146, 147, 148, 149, 150, 151, 152, 153, 154, 155, 156, 157, 158, 159, 160, 161, 162, 163, 164, 165, 166, 167, 168, 169, 170, 171, 172, 173, 174, 175, 176, 177, 178, 179, 180, 181, 182, 183, 184, 185, 186, 187, 188, 189, 190, 191, 192, 193, 194, 195, 196, 197, 198, 199, 200, 201, 202] (by decide +kernel) (by decide +kernel)
set_option maxRecDepth 20000 in
theorem gX13_goThrough_X13_isOn : GoodIn wsX13_goThrough (wsV RX13 317 RX13 yX13_isOn wsX13_isOn) := goodIn_app (goodIn_of _ (by decide +kernel)) ggX13_goThrough_X13_isOn
set_option maxRecDepth 20000 in
theorem ggX13_goThrough_X13_cellOn : GoodIn wsX13_goThrough wsX13_cellOn := goodIn_r _ [21, 22, 23, 132, 133, 134, 135, 136, 137, 138, 139, 140, 141, 142, 143, 144, 145, 146, 147, 148, 149, 150, 151, 152, 153, 154, 155, 156, 157, 158, 159, 160, 161, 162, 163, 164, 165, 166, 167, 168, 169, 170, 171, 172, 173, 174, 175, 176, 177, 178, 179, 180, 181, 182, 183, 184, 185, 186, 187, 188, 189, 190, 191, 192, 193, 194, 195, 196, 197, 198, 199, 200, 201, 202] (by decide +kernel) (by decide +kernel)
set_option maxRecDepth 20000 in
theorem gX13_goThrough_X13_cellOn : GoodIn wsX13_goThrough (wsV RX13 306 RX13 yX13_cellOn wsX13_cellOn) := goodIn_app (goodIn_of _ (by decide +kernel)) ggX13_goThrough_X13_cellOn
set_option maxRecDepth 20000 in
theorem ggX13_goThrough_X13_load_p0 : GoodIn wsX13_goThrough [.code yX13_load cX13_load 7 none] := goodIn_r _ [27] (by decide +kernel) (by decide +kernel)
set_option maxRecDepth 20000 in
theorem ggX13_goThrough_X13_load_p1 : GoodIn wsX13_goThrough wsX13_load_r1 := goodIn_r _ [17, 28, 29, 30, 31, 32, 33, 34, 7, 23, 35, 36, 37, 38, 39, 14, 40, 41, 42, 43, 44, 45, 46, 47] (by decide +kernel) (by decide +kernel)
set_option maxRecDepth 20000 in
theorem ggX13_goThrough_X13_load_p2 : GoodIn wsX13_goThrough wsX13_load_r2 := goodIn_r _ [48, 49, 50, 51, 52, 53, 54, 55, 56, 57, 58] (by decide +kernel) (by decide +kernel)
theorem ggX13_goThrough_X13_load_p3 : GoodIn wsX13_goThrough wsX130 := goodIn_sub iwX13_goThrough_X13 (by decide +kernel)
theorem ggX13_goThrough_X13_load : GoodIn wsX13_goThrough wsX13_load := goodIn_cn ggX13_goThrough_X13_load_p0 (goodIn_app (goodIn_app ggX13_goThrough_X13_load_p1 ggX13_goThrough_X13_load_p2) ggX13_goThrough_X13_load_p3)
set_option maxRecDepth 20000 in
theorem gX13_goThrough_X13_load : GoodIn wsX13_goThrough (wsV RX13 310 RX13 yX13_load wsX13_load) := goodIn_app (goodIn_of _ (by decide +kernel)) ggX13_goThrough_X13_load
set_option maxRecDepth 20000 in
set_option maxRecDepth 20000 in
theorem ggX13_goThrough_X13_alone_p0 : GoodIn wsX13_goThrough [.code yX13_alone cX13_alone 5 none] := goodIn_r _ [62] (by decide +kernel) (by decide +kernel)
set_option maxRecDepth 20000 in
theorem ggX13_goThrough_X13_alone_p1 : GoodIn wsX13_goThrough wsX13_alone_r1 := goodIn_r _ [28, 4, 2, 63, 64, 65, 66, 67, 29, 52, 51, 49, 50, 68, 69, 70, 14, 71, 35, 36, 53, 54, 55, 56] (by decide +kernel) (by decide +kernel)
set_option maxRecDepth 20000 in
theorem ggX13_goThrough_X13_alone_p2 : GoodIn wsX13_goThrough wsX13_alone_r2 := goodIn_r _ [57, 58, 72, 73, 74, 75, 76, 77, 78, 79, 80, 81, 82, 83, 84, 10, 85, 86, 87, 88, 32, 34, 9, 23] (by decide +kernel) (by decide +kernel)
set_option maxRecDepth 20000 in
theorem ggX13_goThrough_X13_alone_p3 : GoodIn wsX13_goThrough wsX13_alone_r3 := goodIn_r _ [8, 37, 38, 39, 40, 41, 42, 43, 89, 90, 91, 92, 93, 94, 95, 96, 97, 30, 98, 99, 100, 101, 31, 102] (by decide +kernel) (by decide +kernel)
set_option maxRecDepth 20000 in
theorem ggX13_goThrough_X13_alone_p4 : GoodIn wsX13_goThrough wsX13_alone_r4 := goodIn_r _ [103, 104, 105, 33] (by decide +kernel) (by decide +kernel)
theorem ggX13_goThrough_X13_alone_p5 : GoodIn wsX13_goThrough wsX130 := goodIn_sub iwX13_goThrough_X13 (by decide +kernel)
theorem ggX13_goThrough_X13_alone : GoodIn wsX13_goThrough wsX13_alone := goodIn_cn ggX13_goThrough_X13_alone_p0 (goodIn_app (goodIn_app ggX13_goThrough_X13_alone_p1 (goodIn_app ggX13_goThrough_X13_alone_p2 (goodIn_app ggX13_goThrough_X13_alone_p3 ggX13_goThrough_X13_alone_p4))) ggX13_goThrough_X13_alone_p5)
set_option maxRecDepth 20000 in
theorem gX13_goThrough_X13_alone : GoodIn wsX13_goThrough (wsV RX13 321 RX13 yX13_alone wsX13_alone) := goodIn_app (goodIn_of _ (by decide +kernel)) ggX13_goThrough_X13_alone
set_option maxRecDepth 20000 in
set_option maxRecDepth 20000 in
theorem ggX13_goThrough_X13_pair_p0 : GoodIn wsX13_goThrough [.code yX13_pair cX13_pair 5 none] := goodIn_r _ [109] (by decide +kernel) (by decide +kernel)
set_option maxRecDepth 20000 in
theorem ggX13_goThrough_X13_pair_p1 : GoodIn wsX13_goThrough wsX13_pair_r1 := goodIn_r _ [6, 8, 9, 10, 110, 111, 112, 14, 113, 7, 23, 18, 19, 20, 21, 22, 24, 25, 26, 27, 17, 28, 29, 30] (by decide +kernel) (by decide +kernel)
set_option maxRecDepth 20000 in
theorem ggX13_goThrough_X13_pair_p2 : GoodIn wsX13_goThrough wsX13_pair_r2 := goodIn_r _ [31, 32, 33, 34, 35, 36, 37, 38, 39, 40, 41, 42, 43, 44, 45, 46, 47, 48, 49, 50, 51, 52, 53, 54] (by decide +kernel) (by decide +kernel)
set_option maxRecDepth 20000 in
theorem ggX13_goThrough_X13_pair_p3 : GoodIn wsX13_goThrough wsX13_pair_r3 := goodIn_r _ [55, 56, 57, 58, 114, 115, 116, 117, 4, 2, 118, 119, 120, 121, 122, 123, 64, 65, 66, 67, 68, 69, 70, 71] (by decide +kernel) (by decide +kernel)
set_option maxRecDepth 20000 in
theorem ggX13_goThrough_X13_pair_p4 : GoodIn wsX13_goThrough wsX13_pair_r4 := goodIn_r _ [124, 125, 126, 127, 63, 128, 129, 130, 131, 78, 79, 80, 81, 82, 83, 84, 85, 86, 87, 88, 72, 73, 74, 75] (by decide +kernel) (by decide +kernel)
set_option maxRecDepth 20000 in
theorem ggX13_goThrough_X13_pair_p5 : GoodIn wsX13_goThrough wsX13_pair_r5 := goodIn_r _ [76, 77] (by decide +kernel) (by decide +kernel)
theorem ggX13_goThrough_X13_pair_p6 : GoodIn wsX13_goThrough wsX130 := goodIn_sub iwX13_goThrough_X13 (by decide +kernel)
theorem ggX13_goThrough_X13_pair : GoodIn wsX13_goThrough wsX13_pair := goodIn_cn ggX13_goThrough_X13_pair_p0 (goodIn_app (goodIn_app ggX13_goThrough_X13_pair_p1 (goodIn_app ggX13_goThrough_X13_pair_p2 (goodIn_app ggX13_goThrough_X13_pair_p3 (goodIn_app ggX13_goThrough_X13_pair_p4 ggX13_goThrough_X13_pair_p5)))) ggX13_goThrough_X13_pair_p6)
set_option maxRecDepth 20000 in
theorem gX13_goThrough_X13_pair : GoodIn wsX13_goThrough (wsV RX13 324 RX13 yX13_pair wsX13_pair) := goodIn_app (goodIn_of _ (by decide +kernel)) ggX13_goThrough_X13_pair
theorem dX13_goThrough_0 : decode cX13_goThrough 0 = .ok (.aload_n 0, 1) := by decide +kernel
theorem dX13_goThrough_1 : decode cX13_goThrough 1 = .ok (.getfield 50, 3) := by decide +kernel
theorem dX13_goThrough_4 : decode cX13_goThrough 4 = .ok (.aload_n 0, 1) := by decide +kernel
theorem dX13_goThrough_5 : decode cX13_goThrough 5 = .ok (.getfield 254, 3) := by decide +kernel
theorem dX13_goThrough_8 : decode cX13_goThrough 8 = .ok (.iaload, 1) := by decide +kernel
theorem dX13_goThrough_9 : decode cX13_goThrough 9 = .ok (.istore_n 2, 1) := by decide +kernel
theorem dX13_goThrough_10 : decode cX13_goThrough 10 = .ok (.aload_n 0, 1) := by decide +kernel
theorem dX13_goThrough_11 : decode cX13_goThrough 11 = .ok (.getfield 53, 3) := by decide +kernel
theorem dX13_goThrough_14 : decode cX13_goThrough 14 = .ok (.aload_n 0, 1) := by decide +kernel
theorem dX13_goThrough_15 : decode cX13_goThrough 15 = .ok (.getfield 254, 3) := by decide +kernel
theorem dX13_goThrough_18 : decode cX13_goThrough 18 = .ok (.iaload, 1) := by decide +kernel
theorem dX13_goThrough_19 : decode cX13_goThrough 19 = .ok (.istore_n 3, 1) := by decide +kernel
theorem dX13_goThrough_20 : decode cX13_goThrough 20 = .ok (.aload_n 0, 1) := by decide +kernel
theorem dX13_goThrough_21 : decode cX13_goThrough 21 = .ok (.getfield 47, 3) := by decide +kernel
theorem dX13_goThrough_24 : decode cX13_goThrough 24 = .ok (.aload_n 0, 1) := by decide +kernel
theorem dX13_goThrough_25 : decode cX13_goThrough 25 = .ok (.getfield 254, 3) := by decide +kernel
theorem dX13_goThrough_28 : decode cX13_goThrough 28 = .ok (.iaload, 1) := by decide +kernel
theorem dX13_goThrough_29 : decode cX13_goThrough 29 = .ok (.bipush 7, 2) := by decide +kernel
theorem dX13_goThrough_31 : decode cX13_goThrough 31 = .ok (.if_icmp .ge 7, 3) := by decide +kernel
theorem dX13_goThrough_34 : decode cX13_goThrough 34 = .ok (.iconst 1, 1) := by decide +kernel
theorem dX13_goThrough_35 : decode cX13_goThrough 35 = .ok (.goto 4, 3) := by decide +kernel
theorem dX13_goThrough_38 : decode cX13_goThrough 38 = .ok (.iconst 0, 1) := by decide +kernel
theorem dX13_goThrough_39 : decode cX13_goThrough 39 = .ok (.istore 4, 2) := by decide +kernel
theorem dX13_goThrough_41 : decode cX13_goThrough 41 = .ok (.iconst 0, 1) := by decide +kernel
theorem dX13_goThrough_42 : decode cX13_goThrough 42 = .ok (.istore 5, 2) := by decide +kernel
theorem dX13_goThrough_44 : decode cX13_goThrough 44 = .ok (.iload 5, 2) := by decide +kernel
theorem dX13_goThrough_46 : decode cX13_goThrough 46 = .ok (.aload_n 0, 1) := by decide +kernel
theorem dX13_goThrough_47 : decode cX13_goThrough 47 = .ok (.getfield 208, 3) := by decide +kernel
theorem dX13_goThrough_50 : decode cX13_goThrough 50 = .ok (.if_icmp .ge 203, 3) := by decide +kernel
theorem dX13_goThrough_53 : decode cX13_goThrough 53 = .ok (.iload 4, 2) := by decide +kernel
theorem dX13_goThrough_55 : decode cX13_goThrough 55 = .ok (.ifCond .eq 83, 3) := by decide +kernel
theorem dX13_goThrough_58 : decode cX13_goThrough 58 = .ok (.aload_n 0, 1) := by decide +kernel
theorem dX13_goThrough_59 : decode cX13_goThrough 59 = .ok (.iload 5, 2) := by decide +kernel
theorem dX13_goThrough_61 : decode cX13_goThrough 61 = .ok (.iload_n 2, 1) := by decide +kernel
theorem dX13_goThrough_62 : decode cX13_goThrough 62 = .ok (.invokevirtual 317, 3) := by decide +kernel
theorem dX13_goThrough_65 : decode cX13_goThrough 65 = .ok (.ifCond .eq 73, 3) := by decide +kernel
theorem dX13_goThrough_68 : decode cX13_goThrough 68 = .ok (.aload_n 0, 1) := by decide +kernel
theorem dX13_goThrough_69 : decode cX13_goThrough 69 = .ok (.getfield 303, 3) := by decide +kernel
theorem dX13_goThrough_72 : decode cX13_goThrough 72 = .ok (.ifCond .ne 13, 3) := by decide +kernel
theorem dX13_goThrough_75 : decode cX13_goThrough 75 = .ok (.aload_n 0, 1) := by decide +kernel
theorem dX13_goThrough_76 : decode cX13_goThrough 76 = .ok (.getfield 89, 3) := by decide +kernel
theorem dX13_goThrough_79 : decode cX13_goThrough 79 = .ok (.iload 5, 2) := by decide +kernel
theorem dX13_goThrough_81 : decode cX13_goThrough 81 = .ok (.iaload, 1) := by decide +kernel
theorem dX13_goThrough_82 : decode cX13_goThrough 82 = .ok (.ifCond .ne 56, 3) := by decide +kernel
theorem dX13_goThrough_85 : decode cX13_goThrough 85 = .ok (.aload_n 0, 1) := by decide +kernel
theorem dX13_goThrough_86 : decode cX13_goThrough 86 = .ok (.iload 5, 2) := by decide +kernel
theorem dX13_goThrough_88 : decode cX13_goThrough 88 = .ok (.putfield 273, 3) := by decide +kernel
theorem dX13_goThrough_91 : decode cX13_goThrough 91 = .ok (.aload_n 0, 1) := by decide +kernel
theorem dX13_goThrough_92 : decode cX13_goThrough 92 = .ok (.aload_n 0, 1) := by decide +kernel
theorem dX13_goThrough_93 : decode cX13_goThrough 93 = .ok (.getfield 89, 3) := by decide +kernel
theorem dX13_goThrough_96 : decode cX13_goThrough 96 = .ok (.iload 5, 2) := by decide +kernel
theorem dX13_goThrough_98 : decode cX13_goThrough 98 = .ok (.iaload, 1) := by decide +kernel
theorem dX13_goThrough_99 : decode cX13_goThrough 99 = .ok (.putfield 270, 3) := by decide +kernel
theorem dX13_goThrough_102 : decode cX13_goThrough 102 = .ok (.aload_n 0, 1) := by decide +kernel
theorem dX13_goThrough_103 : decode cX13_goThrough 103 = .ok (.aload_n 0, 1) := by decide +kernel
theorem dX13_goThrough_104 : decode cX13_goThrough 104 = .ok (.iload_n 1, 1) := by decide +kernel
theorem dX13_goThrough_105 : decode cX13_goThrough 105 = .ok (.iload 5, 2) := by decide +kernel
theorem dX13_goThrough_107 : decode cX13_goThrough 107 = .ok (.aload_n 0, 1) := by decide +kernel
theorem dX13_goThrough_108 : decode cX13_goThrough 108 = .ok (.getfield 89, 3) := by decide +kernel
theorem dX13_goThrough_111 : decode cX13_goThrough 111 = .ok (.iload 5, 2) := by decide +kernel
theorem dX13_goThrough_113 : decode cX13_goThrough 113 = .ok (.iaload, 1) := by decide +kernel
theorem dX13_goThrough_114 : decode cX13_goThrough 114 = .ok (.invokevirtual 306, 3) := by decide +kernel
theorem dX13_goThrough_117 : decode cX13_goThrough 117 = .ok (.putfield 264, 3) := by decide +kernel
theorem dX13_goThrough_120 : decode cX13_goThrough 120 = .ok (.aload_n 0, 1) := by decide +kernel
theorem dX13_goThrough_121 : decode cX13_goThrough 121 = .ok (.iconst 0, 1) := by decide +kernel
theorem dX13_goThrough_122 : decode cX13_goThrough 122 = .ok (.iload 5, 2) := by decide +kernel
theorem dX13_goThrough_124 : decode cX13_goThrough 124 = .ok (.aload_n 0, 1) := by decide +kernel
theorem dX13_goThrough_125 : decode cX13_goThrough 125 = .ok (.getfield 89, 3) := by decide +kernel
theorem dX13_goThrough_128 : decode cX13_goThrough 128 = .ok (.iload 5, 2) := by decide +kernel
theorem dX13_goThrough_130 : decode cX13_goThrough 130 = .ok (.iaload, 1) := by decide +kernel
theorem dX13_goThrough_131 : decode cX13_goThrough 131 = .ok (.invokevirtual 310, 3) := by decide +kernel
theorem dX13_goThrough_134 : decode cX13_goThrough 134 = .ok (.aload_n 0, 1) := by decide +kernel
theorem dX13_goThrough_135 : decode cX13_goThrough 135 = .ok (.invokevirtual 321, 3) := by decide +kernel
theorem dX13_goThrough_138 : decode cX13_goThrough 138 = .ok (.iconst 0, 1) := by decide +kernel
theorem dX13_goThrough_139 : decode cX13_goThrough 139 = .ok (.istore 6, 2) := by decide +kernel
theorem dX13_goThrough_141 : decode cX13_goThrough 141 = .ok (.iload 6, 2) := by decide +kernel
theorem dX13_goThrough_143 : decode cX13_goThrough 143 = .ok (.aload_n 0, 1) := by decide +kernel
theorem dX13_goThrough_144 : decode cX13_goThrough 144 = .ok (.getfield 208, 3) := by decide +kernel
theorem dX13_goThrough_147 : decode cX13_goThrough 147 = .ok (.if_icmp .ge 100, 3) := by decide +kernel
theorem dX13_goThrough_150 : decode cX13_goThrough 150 = .ok (.iload 4, 2) := by decide +kernel
theorem dX13_goThrough_152 : decode cX13_goThrough 152 = .ok (.ifCond .ne 95, 3) := by decide +kernel
theorem dX13_goThrough_155 : decode cX13_goThrough 155 = .ok (.aload_n 0, 1) := by decide +kernel
theorem dX13_goThrough_156 : decode cX13_goThrough 156 = .ok (.getfield 47, 3) := by decide +kernel
theorem dX13_goThrough_159 : decode cX13_goThrough 159 = .ok (.aload_n 0, 1) := by decide +kernel
theorem dX13_goThrough_160 : decode cX13_goThrough 160 = .ok (.getfield 254, 3) := by decide +kernel
theorem dX13_goThrough_163 : decode cX13_goThrough 163 = .ok (.iaload, 1) := by decide +kernel
theorem dX13_goThrough_164 : decode cX13_goThrough 164 = .ok (.bipush 9, 2) := by decide +kernel
theorem dX13_goThrough_166 : decode cX13_goThrough 166 = .ok (.if_icmp .ne 7, 3) := by decide +kernel
theorem dX13_goThrough_169 : decode cX13_goThrough 169 = .ok (.iconst 1, 1) := by decide +kernel
theorem dX13_goThrough_170 : decode cX13_goThrough 170 = .ok (.goto 4, 3) := by decide +kernel
theorem dX13_goThrough_173 : decode cX13_goThrough 173 = .ok (.iconst 0, 1) := by decide +kernel
theorem dX13_goThrough_174 : decode cX13_goThrough 174 = .ok (.istore 7, 2) := by decide +kernel
theorem dX13_goThrough_176 : decode cX13_goThrough 176 = .ok (.aload_n 0, 1) := by decide +kernel
theorem dX13_goThrough_177 : decode cX13_goThrough 177 = .ok (.iload 5, 2) := by decide +kernel
theorem dX13_goThrough_179 : decode cX13_goThrough 179 = .ok (.iload_n 2, 1) := by decide +kernel
theorem dX13_goThrough_180 : decode cX13_goThrough 180 = .ok (.invokevirtual 317, 3) := by decide +kernel
theorem dX13_goThrough_183 : decode cX13_goThrough 183 = .ok (.ifCond .eq 34, 3) := by decide +kernel
theorem dX13_goThrough_186 : decode cX13_goThrough 186 = .ok (.aload_n 0, 1) := by decide +kernel
theorem dX13_goThrough_187 : decode cX13_goThrough 187 = .ok (.iload 6, 2) := by decide +kernel
theorem dX13_goThrough_189 : decode cX13_goThrough 189 = .ok (.iload_n 3, 1) := by decide +kernel
theorem dX13_goThrough_190 : decode cX13_goThrough 190 = .ok (.invokevirtual 317, 3) := by decide +kernel
theorem dX13_goThrough_193 : decode cX13_goThrough 193 = .ok (.ifCond .eq 24, 3) := by decide +kernel
theorem dX13_goThrough_196 : decode cX13_goThrough 196 = .ok (.iload 7, 2) := by decide +kernel
theorem dX13_goThrough_198 : decode cX13_goThrough 198 = .ok (.ifCond .ne 15, 3) := by decide +kernel
theorem dX13_goThrough_201 : decode cX13_goThrough 201 = .ok (.iload_n 2, 1) := by decide +kernel
theorem dX13_goThrough_202 : decode cX13_goThrough 202 = .ok (.iload_n 3, 1) := by decide +kernel
theorem dX13_goThrough_203 : decode cX13_goThrough 203 = .ok (.if_icmp .ne 10, 3) := by decide +kernel
theorem dX13_goThrough_206 : decode cX13_goThrough 206 = .ok (.iload 5, 2) := by decide +kernel
theorem dX13_goThrough_208 : decode cX13_goThrough 208 = .ok (.iload 6, 2) := by decide +kernel
theorem dX13_goThrough_210 : decode cX13_goThrough 210 = .ok (.if_icmp .ge 7, 3) := by decide +kernel
theorem dX13_goThrough_213 : decode cX13_goThrough 213 = .ok (.iconst 1, 1) := by decide +kernel
theorem dX13_goThrough_214 : decode cX13_goThrough 214 = .ok (.goto 4, 3) := by decide +kernel
theorem dX13_goThrough_217 : decode cX13_goThrough 217 = .ok (.iconst 0, 1) := by decide +kernel
theorem dX13_goThrough_218 : decode cX13_goThrough 218 = .ok (.istore 8, 2) := by decide +kernel
theorem dX13_goThrough_220 : decode cX13_goThrough 220 = .ok (.iload 5, 2) := by decide +kernel
theorem dX13_goThrough_222 : decode cX13_goThrough 222 = .ok (.iload 6, 2) := by decide +kernel
theorem dX13_goThrough_224 : decode cX13_goThrough 224 = .ok (.if_icmp .eq 17, 3) := by decide +kernel
theorem dX13_goThrough_227 : decode cX13_goThrough 227 = .ok (.iload 8, 2) := by decide +kernel
theorem dX13_goThrough_229 : decode cX13_goThrough 229 = .ok (.ifCond .eq 12, 3) := by decide +kernel
theorem dX13_goThrough_232 : decode cX13_goThrough 232 = .ok (.aload_n 0, 1) := by decide +kernel
theorem dX13_goThrough_233 : decode cX13_goThrough 233 = .ok (.iload_n 1, 1) := by decide +kernel
theorem dX13_goThrough_234 : decode cX13_goThrough 234 = .ok (.iload 5, 2) := by decide +kernel
theorem dX13_goThrough_236 : decode cX13_goThrough 236 = .ok (.iload 6, 2) := by decide +kernel
theorem dX13_goThrough_238 : decode cX13_goThrough 238 = .ok (.invokevirtual 324, 3) := by decide +kernel
theorem dX13_goThrough_241 : decode cX13_goThrough 241 = .ok (.iinc 6 1, 3) := by decide +kernel
theorem dX13_goThrough_244 : decode cX13_goThrough 244 = .ok (.goto (-103), 3) := by decide +kernel
theorem dX13_goThrough_247 : decode cX13_goThrough 247 = .ok (.iinc 5 1, 3) := by decide +kernel
theorem dX13_goThrough_250 : decode cX13_goThrough 250 = .ok (.goto (-206), 3) := by decide +kernel
theorem dX13_goThrough_253 : decode cX13_goThrough 253 = .ok (.return_, 1) := by decide +kernel

abbrev mX13_goThrough : sv_M := (cX13_goThrough, 9, yX13_goThrough, wsX13_goThrough, none, { frames := 14, cells := 0, slots := 0, locals := 340 }, [])
/-- what one occurrence tells the model -/
def agQ (fl : Int32) (kd : Nat) (l1 x3 x4 x6 : Int32) (p4 : Nat → Nat) (ly : Nat → Int32) (mp : Nat → mvT) (sz : Nat → Nat) (X Y : Nat → Nat → Int) (top : Nat) (q : List Nat × Nat) : List (List Int64) := if ly q.2 = l1 ∧ (fl ≠ 0 ∨ q.1.length = 0) then aQ (mvW mp (q.1.take q.1.length)) kd x3 x4 x6 (mcl p4 top q.1 q.1.length : Int) (fun _ => sz q.2) (fun _ => q.2) (fun _ => crR (crD mp X Y q q.1.length) (sz q.2)) (arM (crR (fun k => (X q.2 k, Y q.2 k)) (sz q.2)) (sz q.2)) else []
/-- what occurrences o and u tell it as a pair -/
def pgQ (fl : Int32) (kd : Nat) (l1 l2 x3 x4 x5 x6 : Int32) (p4 : Nat → Nat) (ly vo : Nat → Int32) (mp : Nat → mvT) (sz : Nat → Nat) (X Y : Nat → Nat → Int) (top : Nat) (O : List (List Nat × Nat)) (o u : Nat) : List (List Int64) := if o ≠ u ∧ ly (O.getD o ([], 0)).2 = l1 ∧ ly (O.getD u ([], 0)).2 = l2 ∧ (kd = 9 ∨ l1 ≠ l2 ∨ o < u) then pQ fl kd x3 x4 x5 x6 p4 vo mp sz X Y top (O.getD o ([], 0)) (O.getD u ([], 0)) else []
/-- what a cell tells the model -/
def goQ (fl : Int32) (kd : Nat) (l1 l2 x3 x4 x5 x6 : Int32) (p4 : Nat → Nat) (ly vo : Nat → Int32) (mp : Nat → mvT) (sz : Nat → Nat) (X Y : Nat → Nat → Int) (top : Nat) (O : List (List Nat × Nat)) : List (List Int64) := if kd < 7 then (List.range O.length).flatMap (fun o => agQ fl kd l1 x3 x4 x6 p4 ly mp sz X Y top (O.getD o ([], 0))) else (List.range O.length).flatMap (fun o => (List.range O.length).flatMap (fun u => pgQ fl kd l1 l2 x3 x4 x5 x6 p4 ly vo mp sz X Y top O o u))
theorem crD_z {mp : Nat → mvT} {X Y : Nat → Nat → Int} {q : List Nat × Nat} (k : Nat) : crD mp X Y q q.1.length k = (X q.2 k, Y q.2 k) := by
  unfold crD
  rw [List.drop_length]
  exact mvI_A _
set_option maxHeartbeats 4000000 in
set_option maxRecDepth 100000 in
theorem t_go85 (G : sv_G) (Qr : Option Value → sv_h → Nat → Prop) (z b nc np pl : Nat) (R : Nat → Bool) (hm p3 p4 sz : Nat → Nat) (ly vo : Nat → Int32) (mp : Nat → mvT) (X Y : Nat → Nat → Int) (hb : sv_h) (fs0 : List Value) (hq0 : mfq_ b nc np pl fs0) (MY : myl_ G hb b nc np pl R hm p3 p4 sz ly vo mp X Y) (O : List (List Nat × Nat)) (MO : moc_ G hb b O) (OK : mok_ np pl sz mp X Y O) (ri kd : Nat) (l1 l2 x3 x4 x5 x6 : Int32) (RU : mru_ G hb b ri kd l1 l2 x3 x4 x5 x6) (h58 : fs0[58]? = some (.int (nI ri))) (hen : x6 = -1 ∨ 0 ≤ x6) (n0 pg0 : Nat → Nat) (cc0 : Nat → Nat → Int × Int) (LD : mld_ G hb b 0 n0 pg0 cc0) (fl : Int32) (h59 : fs0[59]? = some (.int fl)) (top : Nat) (htop : top < nc) (o : Nat) (ho : o < O.length) (oneI : Int32) (E0 : List (List Int64)) (hk : ∀ (h : sv_h) (fs : List Value), h (b + 220) = some (.inr (11, fs)) → fs.length = 71 → fsE [28, 29, 52, 53, 54, 55, 56, 57, 60, 61, 62] fs0 fs → (∀ a, ¬ (b + 249 ≤ a ∧ a < b + 258) → a ≠ b + 220 → a ≠ b + 241 → h a = hb a) → mld_ G h b 0 n0 pg0 cc0 → mT_ gu G h b fs (E0 ++ aQ (mvW mp ((O.getD o ([], 0)).1.take (O.getD o ([], 0)).1.length)) kd x3 x4 x6 ((mcl p4 top (O.getD o ([], 0)).1 (O.getD o ([], 0)).1.length) : Int) (fun _ => sz (O.getD o ([], 0)).2) (fun _ => (O.getD o ([], 0)).2) (fun _ => crR (crD mp X Y (O.getD o ([], 0)) (O.getD o ([], 0)).1.length) (sz (O.getD o ([], 0)).2)) (arM (crR (fun k => (X (O.getD o ([], 0)).2 k, Y (O.getD o ([], 0)).2 k)) (sz (O.getD o ([], 0)).2)) (sz (O.getD o ([], 0)).2))) → V G mX13_goThrough (sv_MQ G mX13_goThrough Qr) 138 [(5, .int (nI o)), (4, .int oneI), (3, .int l2), (2, .int l1), (1, .int (nI top)), (0, .ref (b + 220))] [] h z 0 0) (hm9 : hb (b + 220) = some (.inr (11, fs0))) (T : mT_ gu G hb b fs0 E0) : V G mX13_goThrough (sv_MQ G mX13_goThrough Qr) 85 [(5, .int (nI o)), (4, .int oneI), (3, .int l2), (2, .int l1), (1, .int (nI top)), (0, .ref (b + 220))] [] hb z 0 0 := by
  have hlen : fs0.length = 71 := hq0.1
  have f_flat := h59
  obtain ⟨fp, fd, fw, o1, o2, o3, o4, o5⟩ := id MO
  obtain ⟨o6, o7, o8, o9⟩ := o5 o ho
  obtain ⟨_, _, _, _, _, _, _, _, _, _, _, yB, yC, yD, yE, yF⟩ := id MY
  obtain ⟨ko1, ko2, ko3, ko4, ko6⟩ := OK _ (getD_mem ([], 0) ho)
  have hmc : (mcl p4 top (O.getD o ([], 0)).1 (O.getD o ([], 0)).1.length) < 100 := (by
    unfold mcl
    split
    · omega
    · have := (yF _ (ko2 _ (getD_mem 0 (show (O.getD o ([], 0)).1.length - 1 < (O.getD o ([], 0)).1.length by omega)))).2
      omega)
  have LKK : mlk_ 1 (fun _ => sz (O.getD o ([], 0)).2) (fun _ => (O.getD o ([], 0)).2) (fun _ => crR (crD mp X Y (O.getD o ([], 0)) (O.getD o ([], 0)).1.length) (sz (O.getD o ([], 0)).2)) := ⟨by omega, fun w hw => ⟨⟨ko3, (yE _ ko1).1⟩, Nat.lt_of_lt_of_le ko1 yB, crR_b ko3 (ko4 _ (Nat.le_refl _))⟩⟩
  have hXY : ∀ i, i < sz (O.getD o ([], 0)).2 → (-200000 ≤ X (O.getD o ([], 0)).2 i ∧ X (O.getD o ([], 0)).2 i ≤ 200000) ∧ (-200000 ≤ Y (O.getD o ([], 0)).2 i ∧ Y (O.getD o ([], 0)).2 i ≤ 200000) := (by
    intro i hi
    have q9 := ko4 _ (Nat.le_refl _) i hi
    rw [crD_z] at q9
    exact q9)
  have A1 : fsE [28, 29, 52, 53, 54, 55, 56, 57, 60, 61, 62] fs0 (((fs0.set 60 (.int (nI o))).set 61 (.int (nI (O.getD o ([], 0)).1.length))).set 62 (.int (nI (mcl p4 top (O.getD o ([], 0)).1 (O.getD o ([], 0)).1.length)))) := ((fsE.rf.st (by decide)).st (by decide)).st (by decide)
  have f_depth := hq0.f_depth
  refine v_aload_n dX13_goThrough_85 rfl 5 rfl ?_
  refine v_iload dX13_goThrough_86 0 rfl ?_
  refine v_putf 60 (fs' := _) (ci := 11) (C := RX13) (T := TX13) (N := 71) (ty := .int) rfl iwX13_goThrough_X13 tyX13 tyX13_ok nmX13 (Nat.le_of_ble_eq_true rfl) (by decide +kernel) rfl rfl dX13_goThrough_88 rfl rfl (by repeat (first | with_reducible assumption | (with_reducible refine sv_us.trans ?_; exact rfl) | with_reducible refine (sv_un (by omega)).trans ?_)) (by first | omega | (simp only [List.length_set]; omega)) rfl ?_
  refine v_aload_n dX13_goThrough_91 rfl 5 rfl ?_
  refine v_aload_n dX13_goThrough_92 rfl 5 rfl ?_
  refine v_getf 38 (ci := 11) (C := RX13) (T := TX13) (N := 71) rfl iwX13_goThrough_X13 (Nat.le_of_ble_eq_true rfl) (by decide +kernel) dX13_goThrough_93 (by repeat (first | with_reducible assumption | (with_reducible refine sv_us.trans ?_; exact rfl) | with_reducible refine (sv_un (by omega)).trans ?_)) (by repeat (first | with_reducible assumption | (with_reducible refine (sv_ls (by first | omega | (simp only [List.length_set]; omega))).trans ?_; exact rfl) | with_reducible refine (List.getElem?_set_ne (by decide)).trans ?_)) ?_
  refine v_iload dX13_goThrough_96 0 rfl ?_
  refine v_ialdS (v := nI (O.getD o ([], 0)).1.length) dX13_goThrough_98 (by repeat (first | with_reducible assumption | (with_reducible refine sv_us.trans ?_; exact rfl) | with_reducible refine (sv_un (by omega)).trans ?_)) (vp_in_nI (by omega) (by omega)) (by rw [nI_clamp (by omega)]; exact o7) ?_
  refine v_putf 61 (fs' := _) (ci := 11) (C := RX13) (T := TX13) (N := 71) (ty := .int) rfl iwX13_goThrough_X13 tyX13 tyX13_ok nmX13 (Nat.le_of_ble_eq_true rfl) (by decide +kernel) rfl rfl dX13_goThrough_99 rfl rfl (by repeat (first | with_reducible assumption | (with_reducible refine sv_us.trans ?_; exact rfl) | with_reducible refine (sv_un (by omega)).trans ?_)) (by first | omega | (simp only [List.length_set]; omega)) rfl ?_
  refine v_aload_n dX13_goThrough_102 rfl 5 rfl ?_
  refine v_aload_n dX13_goThrough_103 rfl 5 rfl ?_
  refine v_iload_n dX13_goThrough_104 rfl 4 rfl ?_
  refine v_iload dX13_goThrough_105 0 rfl ?_
  refine v_aload_n dX13_goThrough_107 rfl 5 rfl ?_
  refine v_getf 38 (ci := 11) (C := RX13) (T := TX13) (N := 71) rfl iwX13_goThrough_X13 (Nat.le_of_ble_eq_true rfl) (by decide +kernel) dX13_goThrough_108 (by repeat (first | with_reducible assumption | (with_reducible refine sv_us.trans ?_; exact rfl) | with_reducible refine (sv_un (by omega)).trans ?_)) (by repeat (first | with_reducible assumption | (with_reducible refine (sv_ls (by first | omega | (simp only [List.length_set]; omega))).trans ?_; exact rfl) | with_reducible refine (List.getElem?_set_ne (by decide)).trans ?_)) ?_
  refine v_iload dX13_goThrough_111 0 rfl ?_
  refine v_ialdS (v := nI (O.getD o ([], 0)).1.length) dX13_goThrough_113 (by repeat (first | with_reducible assumption | (with_reducible refine sv_us.trans ?_; exact rfl) | with_reducible refine (sv_un (by omega)).trans ?_)) (vp_in_nI (by omega) (by omega)) (by rw [nI_clamp (by omega)]; exact o7) ?_
  refine v_callVq (M' := mX13_cellOn) (n := 3) (As := [_, _, _]) (ci := 11) (r := (RX13, TX13, 71)) gX13_goThrough_X13_cellOn rfl (by decide +kernel) ⟨(Nat.le_of_ble_eq_true rfl), (Nat.le_of_ble_eq_true rfl)⟩ rfl rfl dX13_goThrough_114 rfl ⟨(Nat.le_of_ble_eq_true rfl), (Nat.le_of_ble_eq_true rfl)⟩ (Nat.le_of_ble_eq_true rfl) (by repeat (first | with_reducible assumption | (with_reducible refine sv_us.trans ?_; exact rfl) | with_reducible refine (sv_un (by omega)).trans ?_)) rfl (m_cellOn G _ b nc np pl _ ((fs0.set 60 (.int (nI o))).set 61 (.int (nI (O.getD o ([], 0)).1.length))) (hq0.to (S := [28, 29, 52, 53, 54, 55, 56, 57, 60, 61, 62]) (by rw [List.length_set, List.length_set]; exact hq0.1) ((fsE.rf.st (by decide)).st (by decide)) (by decide)) sv_us O (MO.kp (fun a p1 p2 => (sv_un (by omega)).trans (sv_un (by omega)))) o ho R hm p3 p4 sz ly vo mp X Y (MY.kp (fun a p1 p2 => (sv_un (by omega)).trans (sv_un (by omega)))) ko2 top (O.getD o ([], 0)).1.length (Nat.le_refl _)) (fun v9 h9 y9 hq => v_pq hq ?_)
  refine v_putf 62 (fs' := _) (ci := 11) (C := RX13) (T := TX13) (N := 71) (ty := .int) rfl iwX13_goThrough_X13 tyX13 tyX13_ok nmX13 (Nat.le_of_ble_eq_true rfl) (by decide +kernel) rfl rfl dX13_goThrough_117 rfl rfl (by repeat (first | with_reducible assumption | (with_reducible refine sv_us.trans ?_; exact rfl) | with_reducible refine (sv_un (by omega)).trans ?_)) (by first | omega | (simp only [List.length_set]; omega)) rfl ?_
  refine v_aload_n dX13_goThrough_120 rfl 5 rfl ?_
  refine v_iconst (v := 0) dX13_goThrough_121 (by decide) ?_
  refine v_iload dX13_goThrough_122 0 rfl ?_
  refine v_aload_n dX13_goThrough_124 rfl 5 rfl ?_
  refine v_getf 38 (ci := 11) (C := RX13) (T := TX13) (N := 71) rfl iwX13_goThrough_X13 (Nat.le_of_ble_eq_true rfl) (by decide +kernel) dX13_goThrough_125 (by repeat (first | with_reducible assumption | (with_reducible refine sv_us.trans ?_; exact rfl) | with_reducible refine (sv_un (by omega)).trans ?_)) (by repeat (first | with_reducible assumption | (with_reducible refine (sv_ls (by first | omega | (simp only [List.length_set]; omega))).trans ?_; exact rfl) | with_reducible refine (List.getElem?_set_ne (by decide)).trans ?_)) ?_
  refine v_iload dX13_goThrough_128 0 rfl ?_
  refine v_ialdS (v := nI (O.getD o ([], 0)).1.length) dX13_goThrough_130 (by repeat (first | with_reducible assumption | (with_reducible refine sv_us.trans ?_; exact rfl) | with_reducible refine (sv_un (by omega)).trans ?_)) (vp_in_nI (by omega) (by omega)) (by rw [nI_clamp (by omega)]; exact o7) ?_
  refine v_callVq (M' := mX13_load) (n := 3) (As := [_, _, _]) (ci := 11) (r := (RX13, TX13, 71)) gX13_goThrough_X13_load rfl (by decide +kernel) ⟨(Nat.le_of_ble_eq_true rfl), (Nat.le_of_ble_eq_true rfl)⟩ rfl rfl dX13_goThrough_131 rfl ⟨(Nat.le_of_ble_eq_true rfl), (Nat.le_of_ble_eq_true rfl)⟩ (Nat.le_of_ble_eq_true rfl) (by repeat (first | with_reducible assumption | (with_reducible refine sv_us.trans ?_; exact rfl) | with_reducible refine (sv_un (by omega)).trans ?_)) rfl (m_loadL G _ b nc np pl R hm p3 p4 sz ly vo mp X Y _ (((fs0.set 60 (.int (nI o))).set 61 (.int (nI (O.getD o ([], 0)).1.length))).set 62 (.int (nI (mcl p4 top (O.getD o ([], 0)).1 (O.getD o ([], 0)).1.length)))) (hq0.to (S := [28, 29, 52, 53, 54, 55, 56, 57, 60, 61, 62]) (by rw [List.length_set, List.length_set, List.length_set]; exact hq0.1) (((fsE.rf.st (by decide)).st (by decide)).st (by decide)) (by decide)) (MY.kp (fun a p1 p2 => (sv_un (by omega)).trans ((sv_un (by omega)).trans (sv_un (by omega))))) O (MO.kp (fun a p1 p2 => (sv_un (by omega)).trans ((sv_un (by omega)).trans (sv_un (by omega))))) o ho ko1 ko2 (O.getD o ([], 0)).1.length (Nat.le_refl _) 0 (by decide) (fun _ => sz (O.getD o ([], 0)).2) (fun _ => (O.getD o ([], 0)).2) (fun _ => crR (crD mp X Y (O.getD o ([], 0)) (O.getD o ([], 0)).1.length) (sz (O.getD o ([], 0)).2)) ((LD.kp (fun a p1 p2 => (sv_un (by omega)).trans ((sv_un (by omega)).trans (sv_un (by omega))))).z) (fun w hw => absurd hw (Nat.not_lt_zero w)) rfl rfl rfl sv_us ko3 (ko4 _ (Nat.le_refl _))) (fun v9 h1 z1 hq9 => ?_)
  obtain ⟨rfl, rfl, ⟨fs1, u1, u2, u3⟩, L1, u4⟩ := hq9
  have A3 := A1.tr (u3.up (T := [28, 29, 52, 53, 54, 55, 56, 57, 60, 61, 62]) (by decide))
  have B2 : ∀ a, ¬ (b + 249 ≤ a ∧ a < b + 258) → a ≠ b + 220 → h1 a = hb a := fun a p1 p2 => (u4 a p1 p2).trans ((sv_un p2).trans ((sv_un p2).trans (sv_un p2)))
  have K28 : fs1[28]? = fs0[28]? := (u3 28 (by decide)).trans ((List.getElem?_set_ne (by decide)).trans ((List.getElem?_set_ne (by decide)).trans (List.getElem?_set_ne (by decide))))
  have K29 : fs1[29]? = fs0[29]? := (u3 29 (by decide)).trans ((List.getElem?_set_ne (by decide)).trans ((List.getElem?_set_ne (by decide)).trans (List.getElem?_set_ne (by decide))))
  have K60 : fs1[60]? = some (.int (nI o)) := (u3 60 (by decide)).trans ((List.getElem?_set_ne (by decide)).trans ((List.getElem?_set_ne (by decide)).trans (sv_ls (by omega))))
  have K61 : fs1[61]? = some (.int (nI (O.getD o ([], 0)).1.length)) := (u3 61 (by decide)).trans ((List.getElem?_set_ne (by decide)).trans (sv_ls (by rw [List.length_set]; omega)))
  have K62 : fs1[62]? = some (.int (nI (mcl p4 top (O.getD o ([], 0)).1 (O.getD o ([], 0)).1.length))) := (u3 62 (by decide)).trans (sv_ls (by rw [List.length_set, List.length_set]; omega))
  refine v_aload_n dX13_goThrough_134 rfl 5 rfl ?_
  refine v_callVq (M' := mX13_alone) (n := 0) (As := []) (ci := 11) (r := (RX13, TX13, 71)) gX13_goThrough_X13_alone rfl (by decide +kernel) ⟨(Nat.le_of_ble_eq_true rfl), (Nat.le_of_ble_eq_true rfl)⟩ rfl rfl dX13_goThrough_135 rfl ⟨(Nat.le_of_ble_eq_true rfl), (Nat.le_of_ble_eq_true rfl)⟩ (Nat.le_of_ble_eq_true rfl) (by repeat (first | with_reducible assumption | (with_reducible refine sv_us.trans ?_; exact rfl) | with_reducible refine (sv_un (by omega)).trans ?_)) rfl (m_alone G _ b nc np pl R hm p3 p4 sz ly vo mp X Y h1 fs1 (hq0.to u2 A3 (by decide)) (MY.kp (fun a p1 p2 => B2 a (by omega) (by omega))) O (MO.kp (fun a p1 p2 => B2 a (by omega) (by omega))) o ho ko2 (O.getD o ([], 0)).1.length (Nat.le_refl _) K60 K61 (mcl p4 top (O.getD o ([], 0)).1 (O.getD o ([], 0)).1.length) hmc K62 (ko6 (O.getD o ([], 0)).1.length) ri kd l1 l2 x3 x4 x5 x6 (RU.kp (fun a p1 p2 => B2 a (by omega) (by omega))) ((A3 58 (by decide)).trans h58) hen (fun _ => sz (O.getD o ([], 0)).2) (fun _ => (O.getD o ([], 0)).2) (fun _ => crR (crD mp X Y (O.getD o ([], 0)) (O.getD o ([], 0)).1.length) (sz (O.getD o ([], 0)).2)) L1 LKK ko1 ko3 hXY u1 E0 (T.kp (B2 _ (by omega) (by omega)) K28 K29)) (fun v9 h3 z3 hq9 => ?_)
  obtain ⟨rfl, rfl, fs3, w1, w2, w3, w4, w5⟩ := hq9
  refine v_sub (L' := [(5, _), (4, _), (3, _), (2, _), (1, _), (0, _)]) [0, 1, 2, 3, 4, 5] rfl ?_
  exact hk h3 fs3 w1 w2 (A3.tr (w3.up (by decide))) (fun a p1 p2 p3_ => (w4 a p2 p3_).trans (B2 a p1 p2)) ((L1.kp (fun a p1 p2 => w4 a (by omega) (by omega))).z) w5

set_option maxHeartbeats 4000000 in
set_option maxRecDepth 100000 in
theorem l_go1 (G : sv_G) (Qr : Option Value → sv_h → Nat → Prop) (z b nc np pl : Nat) (R : Nat → Bool) (hm p3 p4 sz : Nat → Nat) (ly vo : Nat → Int32) (mp : Nat → mvT) (X Y : Nat → Nat → Int) (hb : sv_h) (fs0 : List Value) (hq0 : mfq_ b nc np pl fs0) (MY : myl_ G hb b nc np pl R hm p3 p4 sz ly vo mp X Y) (O : List (List Nat × Nat)) (MO : moc_ G hb b O) (OK : mok_ np pl sz mp X Y O) (ri kd : Nat) (l1 l2 x3 x4 x5 x6 : Int32) (RU : mru_ G hb b ri kd l1 l2 x3 x4 x5 x6) (h58 : fs0[58]? = some (.int (nI ri))) (hen : x6 = -1 ∨ 0 ≤ x6) (n0 pg0 : Nat → Nat) (cc0 : Nat → Nat → Int × Int) (LD : mld_ G hb b 0 n0 pg0 cc0) (fl : Int32) (h59 : fs0[59]? = some (.int fl)) (top : Nat) (htop : top < nc) (h36 : fs0[36]? = some (.int (nI O.length))) (E0 : List (List Int64)) (hk : ∀ (h : sv_h) (fs : List Value), h (b + 220) = some (.inr (11, fs)) → fs.length = 71 → fsE [28, 29, 52, 53, 54, 55, 56, 57, 60, 61, 62] fs0 fs → (∀ a, ¬ (b + 249 ≤ a ∧ a < b + 258) → a ≠ b + 220 → a ≠ b + 241 → h a = hb a) → mld_ G h b 0 n0 pg0 cc0 → mT_ gu G h b fs ((E0 ++ (List.range O.length).flatMap (fun o => agQ fl kd l1 x3 x4 x6 p4 ly mp sz X Y top (O.getD o ([], 0))))) → Qr none h z) : ∀ (e o : Nat) (h : sv_h) (fs : List Value), o + e = O.length → h (b + 220) = some (.inr (11, fs)) → fs.length = 71 → fsE [28, 29, 52, 53, 54, 55, 56, 57, 60, 61, 62] fs0 fs → (∀ a, ¬ (b + 249 ≤ a ∧ a < b + 258) → a ≠ b + 220 → a ≠ b + 241 → h a = hb a) → mld_ G h b 0 n0 pg0 cc0 → mT_ gu G h b fs ((E0 ++ (List.range o).flatMap (fun o => agQ fl kd l1 x3 x4 x6 p4 ly mp sz X Y top (O.getD o ([], 0))))) → V G mX13_goThrough (sv_MQ G mX13_goThrough Qr) 44 [(5, .int (nI o)), (4, .int 1), (3, .int l2), (2, .int l1), (1, .int (nI top)), (0, .ref (b + 220))] [] h z 0 0 := by
  intro e
  induction e with
  | zero =>
    intro o h fs hoe hm9 hl hE fr L9 T
    obtain ⟨fp, fd, fw, o1, o2, o3, o4, o5⟩ := id MO
    obtain ⟨r0, r1, ⟨j33, r33, r33a⟩, ⟨j34, r34, r34a⟩, ⟨j35, r35, r35a⟩, _⟩ := id RU
    have hqf := hq0.to (S := [28, 29, 52, 53, 54, 55, 56, 57, 60, 61, 62]) hl hE (by decide)
    have hlen : fs.length = 71 := hl
    have f_depth := hqf.f_depth
    have f_kind := hqf.f_kind
    have f_occurrences : fs[36]? = some (.int (nI O.length)) := (hE 36 (by decide)).trans h36
    have f_rule : fs[58]? = some (.int (nI ri)) := (hE 58 (by decide)).trans h58
    have f_flat : fs[59]? = some (.int fl) := (hE 59 (by decide)).trans h59
    have w245 : ab_I G h (b + 245) 100 fd := (fr _ (by omega) (by omega) (by omega)).trans o2
    have w233 : ab_I G h (b + 233) 40 j33 := (fr _ (by omega) (by omega) (by omega)).trans r33
    have e9 : o = O.length := by omega
    subst e9
    refine v_iload dX13_goThrough_44 0 rfl ?_
    refine v_aload_n dX13_goThrough_46 rfl 5 rfl ?_
    refine v_getf 36 (ci := 11) (C := RX13) (T := TX13) (N := 71) rfl iwX13_goThrough_X13 (Nat.le_of_ble_eq_true rfl) (by decide +kernel) dX13_goThrough_47 (by first | with_reducible assumption) (by repeat (first | with_reducible assumption | (with_reducible refine (sv_ls (by first | omega | (simp only [List.length_set]; omega))).trans ?_; exact rfl) | with_reducible refine (List.getElem?_set_ne (by decide)).trans ?_)) ?_
    refine v_icmp_ge (tgt := 253) dX13_goThrough_50 (by decide) (fun c_50 => ?_) (fun c_50 => ?_)
    · exact v_ret rfl dX13_goThrough_253 (Nat.le_of_ble_eq_true rfl) (Nat.le_of_ble_eq_true rfl) (hk h fs hm9 hl hE fr L9 T)
    · exact absurd (nI_le (Nat.le_refl _) (by omega)) c_50
  | succ e ih =>
    intro o h fs hoe hm9 hl hE fr L9 T
    obtain ⟨fp, fd, fw, o1, o2, o3, o4, o5⟩ := id MO
    obtain ⟨r0, r1, ⟨j33, r33, r33a⟩, ⟨j34, r34, r34a⟩, ⟨j35, r35, r35a⟩, _⟩ := id RU
    have hqf := hq0.to (S := [28, 29, 52, 53, 54, 55, 56, 57, 60, 61, 62]) hl hE (by decide)
    have hlen : fs.length = 71 := hl
    have f_depth := hqf.f_depth
    have f_kind := hqf.f_kind
    have f_occurrences : fs[36]? = some (.int (nI O.length)) := (hE 36 (by decide)).trans h36
    have f_rule : fs[58]? = some (.int (nI ri)) := (hE 58 (by decide)).trans h58
    have f_flat : fs[59]? = some (.int fl) := (hE 59 (by decide)).trans h59
    have w245 : ab_I G h (b + 245) 100 fd := (fr _ (by omega) (by omega) (by omega)).trans o2
    have w233 : ab_I G h (b + 233) 40 j33 := (fr _ (by omega) (by omega) (by omega)).trans r33
    have ho : o < O.length := by omega
    obtain ⟨o6, o7, o8, o9⟩ := o5 o ho
    obtain ⟨ko1, ko2, ko3, ko4, ko6⟩ := OK _ (getD_mem ([], 0) ho)
    have hkk : ∀ (h : sv_h) (fs : List Value), h (b + 220) = some (.inr (11, fs)) → fs.length = 71 → fsE [28, 29, 52, 53, 54, 55, 56, 57, 60, 61, 62] fs0 fs → (∀ a, ¬ (b + 249 ≤ a ∧ a < b + 258) → a ≠ b + 220 → a ≠ b + 241 → h a = hb a) → mld_ G h b 0 n0 pg0 cc0 → mT_ gu G h b fs ((E0 ++ (List.range (o + 1)).flatMap (fun o => agQ fl kd l1 x3 x4 x6 p4 ly mp sz X Y top (O.getD o ([], 0))))) → V G mX13_goThrough (sv_MQ G mX13_goThrough Qr) 138 [(5, .int (nI o)), (4, .int 1), (3, .int l2), (2, .int l1), (1, .int (nI top)), (0, .ref (b + 220))] [] h z 0 0 := (by
      intro h2 fs2 v1 v2 v3 v4 v5 v6
      have hlen2 : fs2.length = 71 := v2
      have f_occurrences2 : fs2[36]? = some (.int (nI O.length)) := (v3 36 (by decide)).trans h36
      refine v_iconst (v := 0) dX13_goThrough_138 (by decide) ?_
      refine v_istore (L' := [(6, _), (5, _), (4, _), (3, _), (2, _), (1, _), (0, _)]) dX13_goThrough_139 (Nat.le_of_ble_eq_true rfl) rfl ?_
      refine v_iload dX13_goThrough_141 0 rfl ?_
      refine v_aload_n dX13_goThrough_143 rfl 6 rfl ?_
      refine v_getf 36 (ci := 11) (C := RX13) (T := TX13) (N := 71) rfl iwX13_goThrough_X13 (Nat.le_of_ble_eq_true rfl) (by decide +kernel) dX13_goThrough_144 (by first | with_reducible assumption) (by repeat (first | with_reducible assumption | (with_reducible refine (sv_ls (by first | omega | (simp only [List.length_set]; omega))).trans ?_; exact rfl) | with_reducible refine (List.getElem?_set_ne (by decide)).trans ?_)) ?_
      refine v_icmp_ge (tgt := 247) dX13_goThrough_147 (by decide) (fun c_147 => ?_) (fun c_147 => ?_)
      · exact absurd c_147 (nI_ge (a := 0) (b := O.length) (by omega) (by omega))
      · refine v_iload dX13_goThrough_150 2 rfl ?_
        refine v_if_ne (tgt := 247) dX13_goThrough_152 (by decide) (fun c_152 => ?_) (fun c_152 => ?_)
        · refine v_iinc (j := 1) (L' := [(5, _), (6, _), (4, _), (3, _), (2, _), (1, _), (0, _)]) (v := nI (o + 1)) dX13_goThrough_247 rfl (nI_1 _) (Nat.le_of_ble_eq_true rfl) rfl ?_
          refine v_goto (tgt := 44) dX13_goThrough_250 (by decide) ?_
          refine v_sub (L' := [(5, _), (4, _), (3, _), (2, _), (1, _), (0, _)]) [0, 2, 3, 4, 5, 6] rfl ?_
          exact ih (o + 1) h2 fs2 (by omega) v1 v2 v3 v4 v5 v6
        · exact absurd c_152 (by decide))
    refine v_iload dX13_goThrough_44 0 rfl ?_
    refine v_aload_n dX13_goThrough_46 rfl 5 rfl ?_
    refine v_getf 36 (ci := 11) (C := RX13) (T := TX13) (N := 71) rfl iwX13_goThrough_X13 (Nat.le_of_ble_eq_true rfl) (by decide +kernel) dX13_goThrough_47 (by first | with_reducible assumption) (by repeat (first | with_reducible assumption | (with_reducible refine (sv_ls (by first | omega | (simp only [List.length_set]; omega))).trans ?_; exact rfl) | with_reducible refine (List.getElem?_set_ne (by decide)).trans ?_)) ?_
    refine v_icmp_ge (tgt := 253) dX13_goThrough_50 (by decide) (fun c_50 => ?_) (fun c_50 => ?_)
    · exact absurd c_50 (nI_ge ho (by omega))
    · refine v_iload dX13_goThrough_53 1 rfl ?_
      refine v_if_eq (tgt := 138) dX13_goThrough_55 (by decide) (fun c_55 => ?_) (fun c_55 => ?_)
      · exact absurd c_55 (by decide)
      · refine v_aload_n dX13_goThrough_58 rfl 5 rfl ?_
        refine v_iload dX13_goThrough_59 0 rfl ?_
        refine v_iload_n dX13_goThrough_61 rfl 3 rfl ?_
        refine v_callVq (M' := mX13_isOn) (n := 2) (As := [_, _]) (ci := 11) (r := (RX13, TX13, 71)) gX13_goThrough_X13_isOn rfl (by decide +kernel) ⟨(Nat.le_of_ble_eq_true rfl), (Nat.le_of_ble_eq_true rfl)⟩ rfl rfl dX13_goThrough_62 rfl ⟨(Nat.le_of_ble_eq_true rfl), (Nat.le_of_ble_eq_true rfl)⟩ (Nat.le_of_ble_eq_true rfl) (by first | with_reducible assumption) rfl (m_isOn G _ b nc np pl h fs hqf hm9 O (MO.kp (fun a p1 p2 => fr a (by omega) (by omega) (by omega))) o ho R hm p3 p4 sz ly vo mp X Y (MY.kp (fun a p1 p2 => fr a (by omega) (by omega) (by omega))) ko1 l1) (fun v9 h9 y9 hq => v_pq hq ?_)
        refine v_if_eq (tgt := 138) dX13_goThrough_65 (by decide) (fun c_65 => ?_) (fun c_65 => ?_)
        · refine v_sub (L' := [(5, _), (4, _), (3, _), (2, _), (1, _), (0, _)]) [0, 1, 2, 3, 4, 5] rfl ?_
          refine hkk h fs hm9 hl hE fr L9 ?_
          rw [rgm_s, show agQ fl kd l1 x3 x4 x6 p4 ly mp sz X Y top (O.getD o ([], 0)) = [] from if_neg (fun e9 => by
            first
              | (rw [if_pos e9.1] at c_65; exact absurd c_65 (by decide))
              | (rcases e9.2 with e8 | e8
                 · exact e8 c_72
                 · exact c_82 (by rw [e8]; rfl))), List.append_nil]
          exact T
        · refine v_aload_n dX13_goThrough_68 rfl 5 rfl ?_
          refine v_getf 59 (ci := 11) (C := RX13) (T := TX13) (N := 71) rfl iwX13_goThrough_X13 (Nat.le_of_ble_eq_true rfl) (by decide +kernel) dX13_goThrough_69 (by first | with_reducible assumption) (by repeat (first | with_reducible assumption | (with_reducible refine (sv_ls (by first | omega | (simp only [List.length_set]; omega))).trans ?_; exact rfl) | with_reducible refine (List.getElem?_set_ne (by decide)).trans ?_)) ?_
          refine v_if_ne (tgt := 85) dX13_goThrough_72 (by decide) (fun c_72 => ?_) (fun c_72 => ?_)
          · refine v_sub (L' := [(5, _), (4, _), (3, _), (2, _), (1, _), (0, _)]) [0, 1, 2, 3, 4, 5] rfl ?_
            refine t_go85 G Qr z b nc np pl R hm p3 p4 sz ly vo mp X Y h fs (hq0.to (S := [28, 29, 52, 53, 54, 55, 56, 57, 60, 61, 62]) hl hE (by decide)) (MY.kp (fun a p1 p2 => fr a (by omega) (by omega) (by omega))) O (MO.kp (fun a p1 p2 => fr a (by omega) (by omega) (by omega))) OK ri kd l1 l2 x3 x4 x5 x6 (RU.kp (fun a p1 p2 => fr a (by omega) (by omega) (by omega))) ((hE 58 (by decide)).trans h58) hen n0 pg0 cc0 L9 fl ((hE 59 (by decide)).trans h59) top htop o ho 1 _ (fun h2 fs2 v1 v2 v3 v4 v5 v6 => hkk h2 fs2 v1 v2 (hE.tr v3) (fun a p1 p2 p3_ => (v4 a p1 p2 p3_).trans (fr a p1 p2 p3_)) v5 (by
              rw [rgm_s, ← List.append_assoc, show agQ fl kd l1 x3 x4 x6 p4 ly mp sz X Y top (O.getD o ([], 0)) = _ from if_pos ⟨Decidable.of_not_not (fun e9 => c_65 (if_neg e9)), by
                first
                  | exact Or.inl c_72
                  | exact Or.inr (nI_i (c := 0) (by omega) (by omega) c_82)⟩]
              exact v6)) hm9 T
          · refine v_aload_n dX13_goThrough_75 rfl 5 rfl ?_
            refine v_getf 38 (ci := 11) (C := RX13) (T := TX13) (N := 71) rfl iwX13_goThrough_X13 (Nat.le_of_ble_eq_true rfl) (by decide +kernel) dX13_goThrough_76 (by first | with_reducible assumption) (by repeat (first | with_reducible assumption | (with_reducible refine (sv_ls (by first | omega | (simp only [List.length_set]; omega))).trans ?_; exact rfl) | with_reducible refine (List.getElem?_set_ne (by decide)).trans ?_)) ?_
            refine v_iload dX13_goThrough_79 0 rfl ?_
            refine v_ialdS (v := nI (O.getD o ([], 0)).1.length) dX13_goThrough_81 (by first | with_reducible assumption) (vp_in_nI (by omega) (by omega)) (by rw [nI_clamp (by omega)]; exact o7) ?_
            refine v_if_ne (tgt := 138) dX13_goThrough_82 (by decide) (fun c_82 => ?_) (fun c_82 => ?_)
            · refine v_sub (L' := [(5, _), (4, _), (3, _), (2, _), (1, _), (0, _)]) [0, 1, 2, 3, 4, 5] rfl ?_
              refine hkk h fs hm9 hl hE fr L9 ?_
              rw [rgm_s, show agQ fl kd l1 x3 x4 x6 p4 ly mp sz X Y top (O.getD o ([], 0)) = [] from if_neg (fun e9 => by
                first
                  | (rw [if_pos e9.1] at c_65; exact absurd c_65 (by decide))
                  | (rcases e9.2 with e8 | e8
                     · exact e8 c_72
                     · exact c_82 (by rw [e8]; rfl))), List.append_nil]
              exact T
            · refine v_sub (L' := [(5, _), (4, _), (3, _), (2, _), (1, _), (0, _)]) [0, 1, 2, 3, 4, 5] rfl ?_
              refine t_go85 G Qr z b nc np pl R hm p3 p4 sz ly vo mp X Y h fs (hq0.to (S := [28, 29, 52, 53, 54, 55, 56, 57, 60, 61, 62]) hl hE (by decide)) (MY.kp (fun a p1 p2 => fr a (by omega) (by omega) (by omega))) O (MO.kp (fun a p1 p2 => fr a (by omega) (by omega) (by omega))) OK ri kd l1 l2 x3 x4 x5 x6 (RU.kp (fun a p1 p2 => fr a (by omega) (by omega) (by omega))) ((hE 58 (by decide)).trans h58) hen n0 pg0 cc0 L9 fl ((hE 59 (by decide)).trans h59) top htop o ho 1 _ (fun h2 fs2 v1 v2 v3 v4 v5 v6 => hkk h2 fs2 v1 v2 (hE.tr v3) (fun a p1 p2 p3_ => (v4 a p1 p2 p3_).trans (fr a p1 p2 p3_)) v5 (by
                rw [rgm_s, ← List.append_assoc, show agQ fl kd l1 x3 x4 x6 p4 ly mp sz X Y top (O.getD o ([], 0)) = _ from if_pos ⟨Decidable.of_not_not (fun e9 => c_65 (if_neg e9)), by
                  first
                    | exact Or.inl c_72
                    | exact Or.inr (nI_i (c := 0) (by omega) (by omega) c_82)⟩]
                exact v6)) hm9 T

set_option maxHeartbeats 4000000 in
set_option maxRecDepth 100000 in
theorem t_go220 (G : sv_G) (Qr : Option Value → sv_h → Nat → Prop) (z b nc np pl : Nat) (R : Nat → Bool) (hm p3 p4 sz : Nat → Nat) (ly vo : Nat → Int32) (mp : Nat → mvT) (X Y : Nat → Nat → Int) (hb : sv_h) (fs0 : List Value) (hq0 : mfq_ b nc np pl fs0) (MY : myl_ G hb b nc np pl R hm p3 p4 sz ly vo mp X Y) (O : List (List Nat × Nat)) (MO : moc_ G hb b O) (OK : mok_ np pl sz mp X Y O) (ri kd : Nat) (l1 l2 x3 x4 x5 x6 : Int32) (RU : mru_ G hb b ri kd l1 l2 x3 x4 x5 x6) (h58 : fs0[58]? = some (.int (nI ri))) (hen : x6 = -1 ∨ 0 ≤ x6) (n0 pg0 : Nat → Nat) (cc0 : Nat → Nat → Int × Int) (LD : mld_ G hb b 0 n0 pg0 cc0) (fl : Int32) (h59 : fs0[59]? = some (.int fl)) (top : Nat) (htop : top < nc) (o u : Nat) (ho : o < O.length) (hu : u < O.length) (E0 : List (List Int64)) (hk : ∀ (h : sv_h) (fs : List Value), h (b + 220) = some (.inr (11, fs)) → fs.length = 71 → fsE [28, 29, 52, 53, 54, 55, 56, 57, 60, 61, 62] fs0 fs → (∀ a, ¬ (b + 249 ≤ a ∧ a < b + 258) → a ≠ b + 220 → a ≠ b + 241 → h a = hb a) → mld_ G h b 0 n0 pg0 cc0 → mT_ gu G h b fs (E0 ++ pgQ fl kd l1 l2 x3 x4 x5 x6 p4 ly vo mp sz X Y top O o u) → V G mX13_goThrough (sv_MQ G mX13_goThrough Qr) 241 [(6, .int (nI u)), (5, .int (nI o)), (4, .int 0), (3, .int l2), (2, .int l1), (1, .int (nI top)), (0, .ref (b + 220))] [] h z 0 0) (hm9 : hb (b + 220) = some (.inr (11, fs0))) (T : mT_ gu G hb b fs0 E0) : V G mX13_goThrough (sv_MQ G mX13_goThrough Qr) 220 [(8, .int (if (ly (O.getD o ([], 0)).2 = l1 ∧ ly (O.getD u ([], 0)).2 = l2 ∧ (kd = 9 ∨ l1 ≠ l2 ∨ o < u)) then 1 else 0)), (6, .int (nI u)), (5, .int (nI o)), (4, .int 0), (3, .int l2), (2, .int l1), (1, .int (nI top)), (0, .ref (b + 220))] [] hb z 0 0 := by
  obtain ⟨_, _, _, _, _, _, o4, _⟩ := id MO
  refine v_iload dX13_goThrough_220 2 rfl ?_
  refine v_iload dX13_goThrough_222 1 rfl ?_
  refine v_icmp_eq (tgt := 241) dX13_goThrough_224 (by decide) (fun c_224 => ?_) (fun c_224 => ?_)
  · refine v_sub (L' := [(6, _), (5, _), (4, _), (3, _), (2, _), (1, _), (0, _)]) [1, 2, 3, 4, 5, 6, 7] rfl ?_
    first
      | (refine hk h1 fs1 u1 u2 u3 u4 u5 ?_
         rw [show pgQ fl kd l1 l2 x3 x4 x5 x6 p4 ly vo mp sz X Y top O o u = _ from if_pos ⟨fun e9 => c_224 (congrArg nI e9), Decidable.of_not_not (fun e9 => c_229 (if_neg e9))⟩]
         exact u6)
      | (refine hk hb fs0 hm9 hq0.1 fsE.rf (fun _ _ _ _ => rfl) LD ?_
         rw [show pgQ fl kd l1 l2 x3 x4 x5 x6 p4 ly vo mp sz X Y top O o u = [] from if_neg (fun e9 => by
           first
             | exact e9.1 (nI_i (by omega) (by omega) c_224)
             | (rw [if_pos e9.2] at c_229; exact absurd c_229 (by decide))), List.append_nil]
         exact T)
  · refine v_iload dX13_goThrough_227 0 rfl ?_
    refine v_if_eq (tgt := 241) dX13_goThrough_229 (by decide) (fun c_229 => ?_) (fun c_229 => ?_)
    · refine v_sub (L' := [(6, _), (5, _), (4, _), (3, _), (2, _), (1, _), (0, _)]) [1, 2, 3, 4, 5, 6, 7] rfl ?_
      first
        | (refine hk h1 fs1 u1 u2 u3 u4 u5 ?_
           rw [show pgQ fl kd l1 l2 x3 x4 x5 x6 p4 ly vo mp sz X Y top O o u = _ from if_pos ⟨fun e9 => c_224 (congrArg nI e9), Decidable.of_not_not (fun e9 => c_229 (if_neg e9))⟩]
           exact u6)
        | (refine hk hb fs0 hm9 hq0.1 fsE.rf (fun _ _ _ _ => rfl) LD ?_
           rw [show pgQ fl kd l1 l2 x3 x4 x5 x6 p4 ly vo mp sz X Y top O o u = [] from if_neg (fun e9 => by
             first
               | exact e9.1 (nI_i (by omega) (by omega) c_224)
               | (rw [if_pos e9.2] at c_229; exact absurd c_229 (by decide))), List.append_nil]
           exact T)
    · refine v_aload_n dX13_goThrough_232 rfl 7 rfl ?_
      refine v_iload_n dX13_goThrough_233 rfl 6 rfl ?_
      refine v_iload dX13_goThrough_234 2 rfl ?_
      refine v_iload dX13_goThrough_236 1 rfl ?_
      refine v_callVq (M' := mX13_pair) (n := 3) (As := [_, _, _]) (ci := 11) (r := (RX13, TX13, 71)) gX13_goThrough_X13_pair rfl (by decide +kernel) ⟨(Nat.le_of_ble_eq_true rfl), (Nat.le_of_ble_eq_true rfl)⟩ rfl rfl dX13_goThrough_238 rfl ⟨(Nat.le_of_ble_eq_true rfl), (Nat.le_of_ble_eq_true rfl)⟩ (Nat.le_of_ble_eq_true rfl) (by first | with_reducible assumption) rfl (m_pair G _ b nc np pl R hm p3 p4 sz ly vo mp X Y hb fs0 hq0 MY O MO OK ri kd l1 l2 x3 x4 x5 x6 RU h58 hen n0 pg0 cc0 LD fl h59 top htop o u ho hu hm9 E0 T) (fun v9 h1 z1 hq9 => ?_)
      obtain ⟨rfl, rfl, fs1, u1, u2, u3, u4, u5, u6⟩ := hq9
      refine v_sub (L' := [(6, _), (5, _), (4, _), (3, _), (2, _), (1, _), (0, _)]) [1, 2, 3, 4, 5, 6, 7] rfl ?_
      first
        | (refine hk h1 fs1 u1 u2 u3 u4 u5 ?_
           rw [show pgQ fl kd l1 l2 x3 x4 x5 x6 p4 ly vo mp sz X Y top O o u = _ from if_pos ⟨fun e9 => c_224 (congrArg nI e9), Decidable.of_not_not (fun e9 => c_229 (if_neg e9))⟩]
           exact u6)
        | (refine hk hb fs0 hm9 hq0.1 fsE.rf (fun _ _ _ _ => rfl) LD ?_
           rw [show pgQ fl kd l1 l2 x3 x4 x5 x6 p4 ly vo mp sz X Y top O o u = [] from if_neg (fun e9 => by
             first
               | exact e9.1 (nI_i (by omega) (by omega) c_224)
               | (rw [if_pos e9.2] at c_229; exact absurd c_229 (by decide))), List.append_nil]
           exact T)

set_option maxHeartbeats 4000000 in
set_option maxRecDepth 100000 in
theorem t_go176 (G : sv_G) (Qr : Option Value → sv_h → Nat → Prop) (z b nc np pl : Nat) (R : Nat → Bool) (hm p3 p4 sz : Nat → Nat) (ly vo : Nat → Int32) (mp : Nat → mvT) (X Y : Nat → Nat → Int) (hb : sv_h) (fs0 : List Value) (hq0 : mfq_ b nc np pl fs0) (MY : myl_ G hb b nc np pl R hm p3 p4 sz ly vo mp X Y) (O : List (List Nat × Nat)) (MO : moc_ G hb b O) (OK : mok_ np pl sz mp X Y O) (ri kd : Nat) (l1 l2 x3 x4 x5 x6 : Int32) (RU : mru_ G hb b ri kd l1 l2 x3 x4 x5 x6) (h58 : fs0[58]? = some (.int (nI ri))) (hen : x6 = -1 ∨ 0 ≤ x6) (n0 pg0 : Nat → Nat) (cc0 : Nat → Nat → Int × Int) (LD : mld_ G hb b 0 n0 pg0 cc0) (fl : Int32) (h59 : fs0[59]? = some (.int fl)) (top : Nat) (htop : top < nc) (o u : Nat) (ho : o < O.length) (hu : u < O.length) (E0 : List (List Int64)) (hk : ∀ (h : sv_h) (fs : List Value), h (b + 220) = some (.inr (11, fs)) → fs.length = 71 → fsE [28, 29, 52, 53, 54, 55, 56, 57, 60, 61, 62] fs0 fs → (∀ a, ¬ (b + 249 ≤ a ∧ a < b + 258) → a ≠ b + 220 → a ≠ b + 241 → h a = hb a) → mld_ G h b 0 n0 pg0 cc0 → mT_ gu G h b fs (E0 ++ pgQ fl kd l1 l2 x3 x4 x5 x6 p4 ly vo mp sz X Y top O o u) → V G mX13_goThrough (sv_MQ G mX13_goThrough Qr) 241 [(6, .int (nI u)), (5, .int (nI o)), (4, .int 0), (3, .int l2), (2, .int l1), (1, .int (nI top)), (0, .ref (b + 220))] [] h z 0 0) (hm9 : hb (b + 220) = some (.inr (11, fs0))) (T : mT_ gu G hb b fs0 E0) : V G mX13_goThrough (sv_MQ G mX13_goThrough Qr) 176 [(7, .int (if kd = 9 then 1 else 0)), (6, .int (nI u)), (5, .int (nI o)), (4, .int 0), (3, .int l2), (2, .int l1), (1, .int (nI top)), (0, .ref (b + 220))] [] hb z 0 0 := by
  obtain ⟨_, _, _, _, _, _, o4, _⟩ := id MO
  obtain ⟨ko1, ko2, ko3, ko4, ko6⟩ := OK _ (getD_mem ([], 0) ho)
  obtain ⟨ku1, ku2, ku3, ku4, ku6⟩ := OK _ (getD_mem ([], 0) hu)
  refine v_aload_n dX13_goThrough_176 rfl 7 rfl ?_
  refine v_iload dX13_goThrough_177 2 rfl ?_
  refine v_iload_n dX13_goThrough_179 rfl 5 rfl ?_
  refine v_callVq (M' := mX13_isOn) (n := 2) (As := [_, _]) (ci := 11) (r := (RX13, TX13, 71)) gX13_goThrough_X13_isOn rfl (by decide +kernel) ⟨(Nat.le_of_ble_eq_true rfl), (Nat.le_of_ble_eq_true rfl)⟩ rfl rfl dX13_goThrough_180 rfl ⟨(Nat.le_of_ble_eq_true rfl), (Nat.le_of_ble_eq_true rfl)⟩ (Nat.le_of_ble_eq_true rfl) (by first | with_reducible assumption) rfl (m_isOn G _ b nc np pl hb fs0 hq0 hm9 O MO o ho R hm p3 p4 sz ly vo mp X Y MY ko1 l1) (fun v9 h9 y9 hq => v_pq hq ?_)
  refine v_if_eq (tgt := 217) dX13_goThrough_183 (by decide) (fun c_183 => ?_) (fun c_183 => ?_)
  · refine v_iconst (v := 0) dX13_goThrough_217 (by decide) ?_
    refine v_istore (L' := [(8, _), (7, _), (6, _), (5, _), (4, _), (3, _), (2, _), (1, _), (0, _)]) dX13_goThrough_218 (Nat.le_of_ble_eq_true rfl) rfl ?_
    refine v_sub (L' := [(8, _), (6, _), (5, _), (4, _), (3, _), (2, _), (1, _), (0, _)]) [0, 2, 3, 4, 5, 6, 7, 8] rfl ?_
    have hh := t_go220 G Qr z b nc np pl R hm p3 p4 sz ly vo mp X Y hb fs0 hq0 MY O MO OK ri kd l1 l2 x3 x4 x5 x6 RU h58 hen n0 pg0 cc0 LD fl h59 top htop o u ho hu E0 hk hm9 T
    first
      | (rw [if_neg (show ¬ (ly (O.getD o ([], 0)).2 = l1 ∧ ly (O.getD u ([], 0)).2 = l2 ∧ (kd = 9 ∨ l1 ≠ l2 ∨ o < u)) from fun e9 => by
           first
             | (rw [if_pos e9.1] at c_183; exact absurd c_183 (by decide))
             | (rw [if_pos e9.2.1] at c_193; exact absurd c_193 (by decide))
             | (rcases e9.2.2 with e8 | e8 | e8
                · rw [if_pos e8] at c_198; exact absurd c_198 (by decide)
                · exact e8 c_203
                · exact absurd c_210 (nI_ge e8 (by omega))))] at hh
         exact hh)
      | (rw [if_pos (show (ly (O.getD o ([], 0)).2 = l1 ∧ ly (O.getD u ([], 0)).2 = l2 ∧ (kd = 9 ∨ l1 ≠ l2 ∨ o < u)) from ⟨Decidable.of_not_not (fun e9 => c_183 (if_neg e9)), Decidable.of_not_not (fun e9 => c_193 (if_neg e9)), by
           first
             | exact Or.inl (Decidable.of_not_not (fun e9 => c_198 (if_neg e9)))
             | exact Or.inr (Or.inl c_203)
             | exact Or.inr (Or.inr (Nat.lt_of_not_le (fun e9 => c_210 (nI_le e9 (by omega)))))⟩)] at hh
         exact hh)
  · refine v_aload_n dX13_goThrough_186 rfl 7 rfl ?_
    refine v_iload dX13_goThrough_187 1 rfl ?_
    refine v_iload_n dX13_goThrough_189 rfl 4 rfl ?_
    refine v_callVq (M' := mX13_isOn) (n := 2) (As := [_, _]) (ci := 11) (r := (RX13, TX13, 71)) gX13_goThrough_X13_isOn rfl (by decide +kernel) ⟨(Nat.le_of_ble_eq_true rfl), (Nat.le_of_ble_eq_true rfl)⟩ rfl rfl dX13_goThrough_190 rfl ⟨(Nat.le_of_ble_eq_true rfl), (Nat.le_of_ble_eq_true rfl)⟩ (Nat.le_of_ble_eq_true rfl) (by first | with_reducible assumption) rfl (m_isOn G _ b nc np pl hb fs0 hq0 hm9 O MO u hu R hm p3 p4 sz ly vo mp X Y MY ku1 l2) (fun v9 h9 y9 hq => v_pq hq ?_)
    refine v_if_eq (tgt := 217) dX13_goThrough_193 (by decide) (fun c_193 => ?_) (fun c_193 => ?_)
    · refine v_iconst (v := 0) dX13_goThrough_217 (by decide) ?_
      refine v_istore (L' := [(8, _), (7, _), (6, _), (5, _), (4, _), (3, _), (2, _), (1, _), (0, _)]) dX13_goThrough_218 (Nat.le_of_ble_eq_true rfl) rfl ?_
      refine v_sub (L' := [(8, _), (6, _), (5, _), (4, _), (3, _), (2, _), (1, _), (0, _)]) [0, 2, 3, 4, 5, 6, 7, 8] rfl ?_
      have hh := t_go220 G Qr z b nc np pl R hm p3 p4 sz ly vo mp X Y hb fs0 hq0 MY O MO OK ri kd l1 l2 x3 x4 x5 x6 RU h58 hen n0 pg0 cc0 LD fl h59 top htop o u ho hu E0 hk hm9 T
      first
        | (rw [if_neg (show ¬ (ly (O.getD o ([], 0)).2 = l1 ∧ ly (O.getD u ([], 0)).2 = l2 ∧ (kd = 9 ∨ l1 ≠ l2 ∨ o < u)) from fun e9 => by
             first
               | (rw [if_pos e9.1] at c_183; exact absurd c_183 (by decide))
               | (rw [if_pos e9.2.1] at c_193; exact absurd c_193 (by decide))
               | (rcases e9.2.2 with e8 | e8 | e8
                  · rw [if_pos e8] at c_198; exact absurd c_198 (by decide)
                  · exact e8 c_203
                  · exact absurd c_210 (nI_ge e8 (by omega))))] at hh
           exact hh)
        | (rw [if_pos (show (ly (O.getD o ([], 0)).2 = l1 ∧ ly (O.getD u ([], 0)).2 = l2 ∧ (kd = 9 ∨ l1 ≠ l2 ∨ o < u)) from ⟨Decidable.of_not_not (fun e9 => c_183 (if_neg e9)), Decidable.of_not_not (fun e9 => c_193 (if_neg e9)), by
             first
               | exact Or.inl (Decidable.of_not_not (fun e9 => c_198 (if_neg e9)))
               | exact Or.inr (Or.inl c_203)
               | exact Or.inr (Or.inr (Nat.lt_of_not_le (fun e9 => c_210 (nI_le e9 (by omega)))))⟩)] at hh
           exact hh)
    · refine v_iload dX13_goThrough_196 0 rfl ?_
      refine v_if_ne (tgt := 213) dX13_goThrough_198 (by decide) (fun c_198 => ?_) (fun c_198 => ?_)
      · refine v_iconst (v := 1) dX13_goThrough_213 (by decide) ?_
        refine v_goto (tgt := 218) dX13_goThrough_214 (by decide) ?_
        refine v_istore (L' := [(8, _), (7, _), (6, _), (5, _), (4, _), (3, _), (2, _), (1, _), (0, _)]) dX13_goThrough_218 (Nat.le_of_ble_eq_true rfl) rfl ?_
        refine v_sub (L' := [(8, _), (6, _), (5, _), (4, _), (3, _), (2, _), (1, _), (0, _)]) [0, 2, 3, 4, 5, 6, 7, 8] rfl ?_
        have hh := t_go220 G Qr z b nc np pl R hm p3 p4 sz ly vo mp X Y hb fs0 hq0 MY O MO OK ri kd l1 l2 x3 x4 x5 x6 RU h58 hen n0 pg0 cc0 LD fl h59 top htop o u ho hu E0 hk hm9 T
        first
          | (rw [if_neg (show ¬ (ly (O.getD o ([], 0)).2 = l1 ∧ ly (O.getD u ([], 0)).2 = l2 ∧ (kd = 9 ∨ l1 ≠ l2 ∨ o < u)) from fun e9 => by
               first
                 | (rw [if_pos e9.1] at c_183; exact absurd c_183 (by decide))
                 | (rw [if_pos e9.2.1] at c_193; exact absurd c_193 (by decide))
                 | (rcases e9.2.2 with e8 | e8 | e8
                    · rw [if_pos e8] at c_198; exact absurd c_198 (by decide)
                    · exact e8 c_203
                    · exact absurd c_210 (nI_ge e8 (by omega))))] at hh
             exact hh)
          | (rw [if_pos (show (ly (O.getD o ([], 0)).2 = l1 ∧ ly (O.getD u ([], 0)).2 = l2 ∧ (kd = 9 ∨ l1 ≠ l2 ∨ o < u)) from ⟨Decidable.of_not_not (fun e9 => c_183 (if_neg e9)), Decidable.of_not_not (fun e9 => c_193 (if_neg e9)), by
               first
                 | exact Or.inl (Decidable.of_not_not (fun e9 => c_198 (if_neg e9)))
                 | exact Or.inr (Or.inl c_203)
                 | exact Or.inr (Or.inr (Nat.lt_of_not_le (fun e9 => c_210 (nI_le e9 (by omega)))))⟩)] at hh
             exact hh)
      · refine v_iload_n dX13_goThrough_201 rfl 5 rfl ?_
        refine v_iload_n dX13_goThrough_202 rfl 4 rfl ?_
        refine v_icmp_ne (tgt := 213) dX13_goThrough_203 (by decide) (fun c_203 => ?_) (fun c_203 => ?_)
        · refine v_iconst (v := 1) dX13_goThrough_213 (by decide) ?_
          refine v_goto (tgt := 218) dX13_goThrough_214 (by decide) ?_
          refine v_istore (L' := [(8, _), (7, _), (6, _), (5, _), (4, _), (3, _), (2, _), (1, _), (0, _)]) dX13_goThrough_218 (Nat.le_of_ble_eq_true rfl) rfl ?_
          refine v_sub (L' := [(8, _), (6, _), (5, _), (4, _), (3, _), (2, _), (1, _), (0, _)]) [0, 2, 3, 4, 5, 6, 7, 8] rfl ?_
          have hh := t_go220 G Qr z b nc np pl R hm p3 p4 sz ly vo mp X Y hb fs0 hq0 MY O MO OK ri kd l1 l2 x3 x4 x5 x6 RU h58 hen n0 pg0 cc0 LD fl h59 top htop o u ho hu E0 hk hm9 T
          first
            | (rw [if_neg (show ¬ (ly (O.getD o ([], 0)).2 = l1 ∧ ly (O.getD u ([], 0)).2 = l2 ∧ (kd = 9 ∨ l1 ≠ l2 ∨ o < u)) from fun e9 => by
                 first
                   | (rw [if_pos e9.1] at c_183; exact absurd c_183 (by decide))
                   | (rw [if_pos e9.2.1] at c_193; exact absurd c_193 (by decide))
                   | (rcases e9.2.2 with e8 | e8 | e8
                      · rw [if_pos e8] at c_198; exact absurd c_198 (by decide)
                      · exact e8 c_203
                      · exact absurd c_210 (nI_ge e8 (by omega))))] at hh
               exact hh)
            | (rw [if_pos (show (ly (O.getD o ([], 0)).2 = l1 ∧ ly (O.getD u ([], 0)).2 = l2 ∧ (kd = 9 ∨ l1 ≠ l2 ∨ o < u)) from ⟨Decidable.of_not_not (fun e9 => c_183 (if_neg e9)), Decidable.of_not_not (fun e9 => c_193 (if_neg e9)), by
                 first
                   | exact Or.inl (Decidable.of_not_not (fun e9 => c_198 (if_neg e9)))
                   | exact Or.inr (Or.inl c_203)
                   | exact Or.inr (Or.inr (Nat.lt_of_not_le (fun e9 => c_210 (nI_le e9 (by omega)))))⟩)] at hh
               exact hh)
        · refine v_iload dX13_goThrough_206 2 rfl ?_
          refine v_iload dX13_goThrough_208 1 rfl ?_
          refine v_icmp_ge (tgt := 217) dX13_goThrough_210 (by decide) (fun c_210 => ?_) (fun c_210 => ?_)
          · refine v_iconst (v := 0) dX13_goThrough_217 (by decide) ?_
            refine v_istore (L' := [(8, _), (7, _), (6, _), (5, _), (4, _), (3, _), (2, _), (1, _), (0, _)]) dX13_goThrough_218 (Nat.le_of_ble_eq_true rfl) rfl ?_
            refine v_sub (L' := [(8, _), (6, _), (5, _), (4, _), (3, _), (2, _), (1, _), (0, _)]) [0, 2, 3, 4, 5, 6, 7, 8] rfl ?_
            have hh := t_go220 G Qr z b nc np pl R hm p3 p4 sz ly vo mp X Y hb fs0 hq0 MY O MO OK ri kd l1 l2 x3 x4 x5 x6 RU h58 hen n0 pg0 cc0 LD fl h59 top htop o u ho hu E0 hk hm9 T
            first
              | (rw [if_neg (show ¬ (ly (O.getD o ([], 0)).2 = l1 ∧ ly (O.getD u ([], 0)).2 = l2 ∧ (kd = 9 ∨ l1 ≠ l2 ∨ o < u)) from fun e9 => by
                   first
                     | (rw [if_pos e9.1] at c_183; exact absurd c_183 (by decide))
                     | (rw [if_pos e9.2.1] at c_193; exact absurd c_193 (by decide))
                     | (rcases e9.2.2 with e8 | e8 | e8
                        · rw [if_pos e8] at c_198; exact absurd c_198 (by decide)
                        · exact e8 c_203
                        · exact absurd c_210 (nI_ge e8 (by omega))))] at hh
                 exact hh)
              | (rw [if_pos (show (ly (O.getD o ([], 0)).2 = l1 ∧ ly (O.getD u ([], 0)).2 = l2 ∧ (kd = 9 ∨ l1 ≠ l2 ∨ o < u)) from ⟨Decidable.of_not_not (fun e9 => c_183 (if_neg e9)), Decidable.of_not_not (fun e9 => c_193 (if_neg e9)), by
                   first
                     | exact Or.inl (Decidable.of_not_not (fun e9 => c_198 (if_neg e9)))
                     | exact Or.inr (Or.inl c_203)
                     | exact Or.inr (Or.inr (Nat.lt_of_not_le (fun e9 => c_210 (nI_le e9 (by omega)))))⟩)] at hh
                 exact hh)
          · refine v_iconst (v := 1) dX13_goThrough_213 (by decide) ?_
            refine v_goto (tgt := 218) dX13_goThrough_214 (by decide) ?_
            refine v_istore (L' := [(8, _), (7, _), (6, _), (5, _), (4, _), (3, _), (2, _), (1, _), (0, _)]) dX13_goThrough_218 (Nat.le_of_ble_eq_true rfl) rfl ?_
            refine v_sub (L' := [(8, _), (6, _), (5, _), (4, _), (3, _), (2, _), (1, _), (0, _)]) [0, 2, 3, 4, 5, 6, 7, 8] rfl ?_
            have hh := t_go220 G Qr z b nc np pl R hm p3 p4 sz ly vo mp X Y hb fs0 hq0 MY O MO OK ri kd l1 l2 x3 x4 x5 x6 RU h58 hen n0 pg0 cc0 LD fl h59 top htop o u ho hu E0 hk hm9 T
            first
              | (rw [if_neg (show ¬ (ly (O.getD o ([], 0)).2 = l1 ∧ ly (O.getD u ([], 0)).2 = l2 ∧ (kd = 9 ∨ l1 ≠ l2 ∨ o < u)) from fun e9 => by
                   first
                     | (rw [if_pos e9.1] at c_183; exact absurd c_183 (by decide))
                     | (rw [if_pos e9.2.1] at c_193; exact absurd c_193 (by decide))
                     | (rcases e9.2.2 with e8 | e8 | e8
                        · rw [if_pos e8] at c_198; exact absurd c_198 (by decide)
                        · exact e8 c_203
                        · exact absurd c_210 (nI_ge e8 (by omega))))] at hh
                 exact hh)
              | (rw [if_pos (show (ly (O.getD o ([], 0)).2 = l1 ∧ ly (O.getD u ([], 0)).2 = l2 ∧ (kd = 9 ∨ l1 ≠ l2 ∨ o < u)) from ⟨Decidable.of_not_not (fun e9 => c_183 (if_neg e9)), Decidable.of_not_not (fun e9 => c_193 (if_neg e9)), by
                   first
                     | exact Or.inl (Decidable.of_not_not (fun e9 => c_198 (if_neg e9)))
                     | exact Or.inr (Or.inl c_203)
                     | exact Or.inr (Or.inr (Nat.lt_of_not_le (fun e9 => c_210 (nI_le e9 (by omega)))))⟩)] at hh
                 exact hh)

set_option maxHeartbeats 4000000 in
set_option maxRecDepth 100000 in
theorem l_goU (G : sv_G) (Qr : Option Value → sv_h → Nat → Prop) (z b nc np pl : Nat) (R : Nat → Bool) (hm p3 p4 sz : Nat → Nat) (ly vo : Nat → Int32) (mp : Nat → mvT) (X Y : Nat → Nat → Int) (hb : sv_h) (fs0 : List Value) (hq0 : mfq_ b nc np pl fs0) (MY : myl_ G hb b nc np pl R hm p3 p4 sz ly vo mp X Y) (O : List (List Nat × Nat)) (MO : moc_ G hb b O) (OK : mok_ np pl sz mp X Y O) (ri kd : Nat) (l1 l2 x3 x4 x5 x6 : Int32) (RU : mru_ G hb b ri kd l1 l2 x3 x4 x5 x6) (h58 : fs0[58]? = some (.int (nI ri))) (hen : x6 = -1 ∨ 0 ≤ x6) (n0 pg0 : Nat → Nat) (cc0 : Nat → Nat → Int × Int) (LD : mld_ G hb b 0 n0 pg0 cc0) (fl : Int32) (h59 : fs0[59]? = some (.int fl)) (top : Nat) (htop : top < nc) (h36 : fs0[36]? = some (.int (nI O.length))) (o : Nat) (ho : o < O.length) (E0 : List (List Int64)) (hk : ∀ (h : sv_h) (fs : List Value), h (b + 220) = some (.inr (11, fs)) → fs.length = 71 → fsE [28, 29, 52, 53, 54, 55, 56, 57, 60, 61, 62] fs0 fs → (∀ a, ¬ (b + 249 ≤ a ∧ a < b + 258) → a ≠ b + 220 → a ≠ b + 241 → h a = hb a) → mld_ G h b 0 n0 pg0 cc0 → mT_ gu G h b fs ((E0 ++ (List.range O.length).flatMap (fun u => pgQ fl kd l1 l2 x3 x4 x5 x6 p4 ly vo mp sz X Y top O o u))) → V G mX13_goThrough (sv_MQ G mX13_goThrough Qr) 247 [(5, .int (nI o)), (4, .int 0), (3, .int l2), (2, .int l1), (1, .int (nI top)), (0, .ref (b + 220))] [] h z 0 0) : ∀ (e u : Nat) (h : sv_h) (fs : List Value), u + e = O.length → h (b + 220) = some (.inr (11, fs)) → fs.length = 71 → fsE [28, 29, 52, 53, 54, 55, 56, 57, 60, 61, 62] fs0 fs → (∀ a, ¬ (b + 249 ≤ a ∧ a < b + 258) → a ≠ b + 220 → a ≠ b + 241 → h a = hb a) → mld_ G h b 0 n0 pg0 cc0 → mT_ gu G h b fs ((E0 ++ (List.range u).flatMap (fun u => pgQ fl kd l1 l2 x3 x4 x5 x6 p4 ly vo mp sz X Y top O o u))) → V G mX13_goThrough (sv_MQ G mX13_goThrough Qr) 141 [(6, .int (nI u)), (5, .int (nI o)), (4, .int 0), (3, .int l2), (2, .int l1), (1, .int (nI top)), (0, .ref (b + 220))] [] h z 0 0 := by
  intro e
  induction e with
  | zero =>
    intro u h fs hue hm9 hl hE fr L9 T
    obtain ⟨fp, fd, fw, o1, o2, o3, o4, o5⟩ := id MO
    obtain ⟨r0, r1, ⟨j33, r33, r33a⟩, ⟨j34, r34, r34a⟩, ⟨j35, r35, r35a⟩, _⟩ := id RU
    have hqf := hq0.to (S := [28, 29, 52, 53, 54, 55, 56, 57, 60, 61, 62]) hl hE (by decide)
    have hlen : fs.length = 71 := hl
    have f_depth := hqf.f_depth
    have f_kind := hqf.f_kind
    have f_occurrences : fs[36]? = some (.int (nI O.length)) := (hE 36 (by decide)).trans h36
    have f_rule : fs[58]? = some (.int (nI ri)) := (hE 58 (by decide)).trans h58
    have f_flat : fs[59]? = some (.int fl) := (hE 59 (by decide)).trans h59
    have w245 : ab_I G h (b + 245) 100 fd := (fr _ (by omega) (by omega) (by omega)).trans o2
    have w233 : ab_I G h (b + 233) 40 j33 := (fr _ (by omega) (by omega) (by omega)).trans r33
    have e9 : u = O.length := by omega
    subst e9
    refine v_iload dX13_goThrough_141 0 rfl ?_
    refine v_aload_n dX13_goThrough_143 rfl 6 rfl ?_
    refine v_getf 36 (ci := 11) (C := RX13) (T := TX13) (N := 71) rfl iwX13_goThrough_X13 (Nat.le_of_ble_eq_true rfl) (by decide +kernel) dX13_goThrough_144 (by first | with_reducible assumption) (by repeat (first | with_reducible assumption | (with_reducible refine (sv_ls (by first | omega | (simp only [List.length_set]; omega))).trans ?_; exact rfl) | with_reducible refine (List.getElem?_set_ne (by decide)).trans ?_)) ?_
    refine v_icmp_ge (tgt := 247) dX13_goThrough_147 (by decide) (fun c_147 => ?_) (fun c_147 => ?_)
    · refine v_sub (L' := [(5, _), (4, _), (3, _), (2, _), (1, _), (0, _)]) [1, 2, 3, 4, 5, 6] rfl ?_
      exact hk h fs hm9 hl hE fr L9 T
    · exact absurd (nI_le (Nat.le_refl _) (by omega)) c_147
  | succ e ih =>
    intro u h fs hue hm9 hl hE fr L9 T
    obtain ⟨fp, fd, fw, o1, o2, o3, o4, o5⟩ := id MO
    obtain ⟨r0, r1, ⟨j33, r33, r33a⟩, ⟨j34, r34, r34a⟩, ⟨j35, r35, r35a⟩, _⟩ := id RU
    have hqf := hq0.to (S := [28, 29, 52, 53, 54, 55, 56, 57, 60, 61, 62]) hl hE (by decide)
    have hlen : fs.length = 71 := hl
    have f_depth := hqf.f_depth
    have f_kind := hqf.f_kind
    have f_occurrences : fs[36]? = some (.int (nI O.length)) := (hE 36 (by decide)).trans h36
    have f_rule : fs[58]? = some (.int (nI ri)) := (hE 58 (by decide)).trans h58
    have f_flat : fs[59]? = some (.int fl) := (hE 59 (by decide)).trans h59
    have w245 : ab_I G h (b + 245) 100 fd := (fr _ (by omega) (by omega) (by omega)).trans o2
    have w233 : ab_I G h (b + 233) 40 j33 := (fr _ (by omega) (by omega) (by omega)).trans r33
    have hu : u < O.length := by omega
    have hkk : ∀ (h : sv_h) (fs : List Value), h (b + 220) = some (.inr (11, fs)) → fs.length = 71 → fsE [28, 29, 52, 53, 54, 55, 56, 57, 60, 61, 62] fs0 fs → (∀ a, ¬ (b + 249 ≤ a ∧ a < b + 258) → a ≠ b + 220 → a ≠ b + 241 → h a = hb a) → mld_ G h b 0 n0 pg0 cc0 → mT_ gu G h b fs ((E0 ++ (List.range (u + 1)).flatMap (fun u => pgQ fl kd l1 l2 x3 x4 x5 x6 p4 ly vo mp sz X Y top O o u))) → V G mX13_goThrough (sv_MQ G mX13_goThrough Qr) 241 [(6, .int (nI u)), (5, .int (nI o)), (4, .int 0), (3, .int l2), (2, .int l1), (1, .int (nI top)), (0, .ref (b + 220))] [] h z 0 0 := (by
      intro h2 fs2 v1 v2 v3 v4 v5 v6
      refine v_iinc (j := 0) (L' := [(6, _), (5, _), (4, _), (3, _), (2, _), (1, _), (0, _)]) (v := nI (u + 1)) dX13_goThrough_241 rfl (nI_1 _) (Nat.le_of_ble_eq_true rfl) rfl ?_
      refine v_goto (tgt := 141) dX13_goThrough_244 (by decide) ?_
      refine v_sub (L' := [(6, _), (5, _), (4, _), (3, _), (2, _), (1, _), (0, _)]) [0, 1, 2, 3, 4, 5, 6] rfl ?_
      exact ih (u + 1) h2 fs2 (by omega) v1 v2 v3 v4 v5 v6)
    refine v_iload dX13_goThrough_141 0 rfl ?_
    refine v_aload_n dX13_goThrough_143 rfl 6 rfl ?_
    refine v_getf 36 (ci := 11) (C := RX13) (T := TX13) (N := 71) rfl iwX13_goThrough_X13 (Nat.le_of_ble_eq_true rfl) (by decide +kernel) dX13_goThrough_144 (by first | with_reducible assumption) (by repeat (first | with_reducible assumption | (with_reducible refine (sv_ls (by first | omega | (simp only [List.length_set]; omega))).trans ?_; exact rfl) | with_reducible refine (List.getElem?_set_ne (by decide)).trans ?_)) ?_
    refine v_icmp_ge (tgt := 247) dX13_goThrough_147 (by decide) (fun c_147 => ?_) (fun c_147 => ?_)
    · exact absurd c_147 (nI_ge hu (by omega))
    · refine v_iload dX13_goThrough_150 2 rfl ?_
      refine v_if_ne (tgt := 247) dX13_goThrough_152 (by decide) (fun c_152 => ?_) (fun c_152 => ?_)
      · exact absurd rfl c_152
      · refine v_aload_n dX13_goThrough_155 rfl 6 rfl ?_
        refine v_getf 19 (ci := 11) (C := RX13) (T := TX13) (N := 71) rfl iwX13_goThrough_X13 (Nat.le_of_ble_eq_true rfl) (by decide +kernel) dX13_goThrough_156 (by first | with_reducible assumption) (by repeat (first | with_reducible assumption | (with_reducible refine (sv_ls (by first | omega | (simp only [List.length_set]; omega))).trans ?_; exact rfl) | with_reducible refine (List.getElem?_set_ne (by decide)).trans ?_)) ?_
        refine v_aload_n dX13_goThrough_159 rfl 6 rfl ?_
        refine v_getf 58 (ci := 11) (C := RX13) (T := TX13) (N := 71) rfl iwX13_goThrough_X13 (Nat.le_of_ble_eq_true rfl) (by decide +kernel) dX13_goThrough_160 (by first | with_reducible assumption) (by repeat (first | with_reducible assumption | (with_reducible refine (sv_ls (by first | omega | (simp only [List.length_set]; omega))).trans ?_; exact rfl) | with_reducible refine (List.getElem?_set_ne (by decide)).trans ?_)) ?_
        refine v_ialdS (v := nI kd) dX13_goThrough_163 (by first | with_reducible assumption) (vp_in_nI (by omega) (by omega)) (by rw [nI_clamp (by omega)]; exact r33a) ?_
        refine v_bipush (v := 9) dX13_goThrough_164 (by decide) ?_
        refine v_icmp_ne (tgt := 173) dX13_goThrough_166 (by decide) (fun c_166 => ?_) (fun c_166 => ?_)
        · refine v_iconst (v := 0) dX13_goThrough_173 (by decide) ?_
          refine v_istore (L' := [(7, _), (6, _), (5, _), (4, _), (3, _), (2, _), (1, _), (0, _)]) dX13_goThrough_174 (Nat.le_of_ble_eq_true rfl) rfl ?_
          refine v_sub (L' := [(7, _), (6, _), (5, _), (4, _), (3, _), (2, _), (1, _), (0, _)]) [0, 1, 2, 3, 4, 5, 6, 7] rfl ?_
          have hh := t_go176 G Qr z b nc np pl R hm p3 p4 sz ly vo mp X Y h fs (hq0.to (S := [28, 29, 52, 53, 54, 55, 56, 57, 60, 61, 62]) hl hE (by decide)) (MY.kp (fun a p1 p2 => fr a (by omega) (by omega) (by omega))) O (MO.kp (fun a p1 p2 => fr a (by omega) (by omega) (by omega))) OK ri kd l1 l2 x3 x4 x5 x6 (RU.kp (fun a p1 p2 => fr a (by omega) (by omega) (by omega))) ((hE 58 (by decide)).trans h58) hen n0 pg0 cc0 L9 fl ((hE 59 (by decide)).trans h59) top htop o u ho hu _ (fun h2 fs2 v1 v2 v3 v4 v5 v6 => hkk h2 fs2 v1 v2 (hE.tr v3) (fun a p1 p2 p3_ => (v4 a p1 p2 p3_).trans (fr a p1 p2 p3_)) v5 (by
            rw [rgm_s, ← List.append_assoc]
            exact v6)) hm9 T
          first
            | (rw [if_pos (nI_11 kd r1 9 (by decide) c_166)] at hh; exact hh)
            | (rw [if_neg (fun e9 => c_166 (congrArg nI e9))] at hh; exact hh)
        · refine v_iconst (v := 1) dX13_goThrough_169 (by decide) ?_
          refine v_goto (tgt := 174) dX13_goThrough_170 (by decide) ?_
          refine v_istore (L' := [(7, _), (6, _), (5, _), (4, _), (3, _), (2, _), (1, _), (0, _)]) dX13_goThrough_174 (Nat.le_of_ble_eq_true rfl) rfl ?_
          refine v_sub (L' := [(7, _), (6, _), (5, _), (4, _), (3, _), (2, _), (1, _), (0, _)]) [0, 1, 2, 3, 4, 5, 6, 7] rfl ?_
          have hh := t_go176 G Qr z b nc np pl R hm p3 p4 sz ly vo mp X Y h fs (hq0.to (S := [28, 29, 52, 53, 54, 55, 56, 57, 60, 61, 62]) hl hE (by decide)) (MY.kp (fun a p1 p2 => fr a (by omega) (by omega) (by omega))) O (MO.kp (fun a p1 p2 => fr a (by omega) (by omega) (by omega))) OK ri kd l1 l2 x3 x4 x5 x6 (RU.kp (fun a p1 p2 => fr a (by omega) (by omega) (by omega))) ((hE 58 (by decide)).trans h58) hen n0 pg0 cc0 L9 fl ((hE 59 (by decide)).trans h59) top htop o u ho hu _ (fun h2 fs2 v1 v2 v3 v4 v5 v6 => hkk h2 fs2 v1 v2 (hE.tr v3) (fun a p1 p2 p3_ => (v4 a p1 p2 p3_).trans (fr a p1 p2 p3_)) v5 (by
            rw [rgm_s, ← List.append_assoc]
            exact v6)) hm9 T
          first
            | (rw [if_pos (nI_11 kd r1 9 (by decide) c_166)] at hh; exact hh)
            | (rw [if_neg (fun e9 => c_166 (congrArg nI e9))] at hh; exact hh)

set_option maxHeartbeats 4000000 in
set_option maxRecDepth 100000 in
theorem l_go2 (G : sv_G) (Qr : Option Value → sv_h → Nat → Prop) (z b nc np pl : Nat) (R : Nat → Bool) (hm p3 p4 sz : Nat → Nat) (ly vo : Nat → Int32) (mp : Nat → mvT) (X Y : Nat → Nat → Int) (hb : sv_h) (fs0 : List Value) (hq0 : mfq_ b nc np pl fs0) (MY : myl_ G hb b nc np pl R hm p3 p4 sz ly vo mp X Y) (O : List (List Nat × Nat)) (MO : moc_ G hb b O) (OK : mok_ np pl sz mp X Y O) (ri kd : Nat) (l1 l2 x3 x4 x5 x6 : Int32) (RU : mru_ G hb b ri kd l1 l2 x3 x4 x5 x6) (h58 : fs0[58]? = some (.int (nI ri))) (hen : x6 = -1 ∨ 0 ≤ x6) (n0 pg0 : Nat → Nat) (cc0 : Nat → Nat → Int × Int) (LD : mld_ G hb b 0 n0 pg0 cc0) (fl : Int32) (h59 : fs0[59]? = some (.int fl)) (top : Nat) (htop : top < nc) (h36 : fs0[36]? = some (.int (nI O.length))) (E0 : List (List Int64)) (hk : ∀ (h : sv_h) (fs : List Value), h (b + 220) = some (.inr (11, fs)) → fs.length = 71 → fsE [28, 29, 52, 53, 54, 55, 56, 57, 60, 61, 62] fs0 fs → (∀ a, ¬ (b + 249 ≤ a ∧ a < b + 258) → a ≠ b + 220 → a ≠ b + 241 → h a = hb a) → mld_ G h b 0 n0 pg0 cc0 → mT_ gu G h b fs ((E0 ++ (List.range O.length).flatMap (fun o => (List.range O.length).flatMap (fun u => pgQ fl kd l1 l2 x3 x4 x5 x6 p4 ly vo mp sz X Y top O o u)))) → Qr none h z) : ∀ (e o : Nat) (h : sv_h) (fs : List Value), o + e = O.length → h (b + 220) = some (.inr (11, fs)) → fs.length = 71 → fsE [28, 29, 52, 53, 54, 55, 56, 57, 60, 61, 62] fs0 fs → (∀ a, ¬ (b + 249 ≤ a ∧ a < b + 258) → a ≠ b + 220 → a ≠ b + 241 → h a = hb a) → mld_ G h b 0 n0 pg0 cc0 → mT_ gu G h b fs ((E0 ++ (List.range o).flatMap (fun o => (List.range O.length).flatMap (fun u => pgQ fl kd l1 l2 x3 x4 x5 x6 p4 ly vo mp sz X Y top O o u)))) → V G mX13_goThrough (sv_MQ G mX13_goThrough Qr) 44 [(5, .int (nI o)), (4, .int 0), (3, .int l2), (2, .int l1), (1, .int (nI top)), (0, .ref (b + 220))] [] h z 0 0 := by
  intro e
  induction e with
  | zero =>
    intro o h fs hoe hm9 hl hE fr L9 T
    obtain ⟨fp, fd, fw, o1, o2, o3, o4, o5⟩ := id MO
    obtain ⟨r0, r1, ⟨j33, r33, r33a⟩, ⟨j34, r34, r34a⟩, ⟨j35, r35, r35a⟩, _⟩ := id RU
    have hqf := hq0.to (S := [28, 29, 52, 53, 54, 55, 56, 57, 60, 61, 62]) hl hE (by decide)
    have hlen : fs.length = 71 := hl
    have f_depth := hqf.f_depth
    have f_kind := hqf.f_kind
    have f_occurrences : fs[36]? = some (.int (nI O.length)) := (hE 36 (by decide)).trans h36
    have f_rule : fs[58]? = some (.int (nI ri)) := (hE 58 (by decide)).trans h58
    have f_flat : fs[59]? = some (.int fl) := (hE 59 (by decide)).trans h59
    have w245 : ab_I G h (b + 245) 100 fd := (fr _ (by omega) (by omega) (by omega)).trans o2
    have w233 : ab_I G h (b + 233) 40 j33 := (fr _ (by omega) (by omega) (by omega)).trans r33
    have e9 : o = O.length := by omega
    subst e9
    refine v_iload dX13_goThrough_44 0 rfl ?_
    refine v_aload_n dX13_goThrough_46 rfl 5 rfl ?_
    refine v_getf 36 (ci := 11) (C := RX13) (T := TX13) (N := 71) rfl iwX13_goThrough_X13 (Nat.le_of_ble_eq_true rfl) (by decide +kernel) dX13_goThrough_47 (by first | with_reducible assumption) (by repeat (first | with_reducible assumption | (with_reducible refine (sv_ls (by first | omega | (simp only [List.length_set]; omega))).trans ?_; exact rfl) | with_reducible refine (List.getElem?_set_ne (by decide)).trans ?_)) ?_
    refine v_icmp_ge (tgt := 253) dX13_goThrough_50 (by decide) (fun c_50 => ?_) (fun c_50 => ?_)
    · exact v_ret rfl dX13_goThrough_253 (Nat.le_of_ble_eq_true rfl) (Nat.le_of_ble_eq_true rfl) (hk h fs hm9 hl hE fr L9 T)
    · exact absurd (nI_le (Nat.le_refl _) (by omega)) c_50
  | succ e ih =>
    intro o h fs hoe hm9 hl hE fr L9 T
    obtain ⟨fp, fd, fw, o1, o2, o3, o4, o5⟩ := id MO
    obtain ⟨r0, r1, ⟨j33, r33, r33a⟩, ⟨j34, r34, r34a⟩, ⟨j35, r35, r35a⟩, _⟩ := id RU
    have hqf := hq0.to (S := [28, 29, 52, 53, 54, 55, 56, 57, 60, 61, 62]) hl hE (by decide)
    have hlen : fs.length = 71 := hl
    have f_depth := hqf.f_depth
    have f_kind := hqf.f_kind
    have f_occurrences : fs[36]? = some (.int (nI O.length)) := (hE 36 (by decide)).trans h36
    have f_rule : fs[58]? = some (.int (nI ri)) := (hE 58 (by decide)).trans h58
    have f_flat : fs[59]? = some (.int fl) := (hE 59 (by decide)).trans h59
    have w245 : ab_I G h (b + 245) 100 fd := (fr _ (by omega) (by omega) (by omega)).trans o2
    have w233 : ab_I G h (b + 233) 40 j33 := (fr _ (by omega) (by omega) (by omega)).trans r33
    have ho : o < O.length := by omega
    have hkk : ∀ (h : sv_h) (fs : List Value), h (b + 220) = some (.inr (11, fs)) → fs.length = 71 → fsE [28, 29, 52, 53, 54, 55, 56, 57, 60, 61, 62] fs0 fs → (∀ a, ¬ (b + 249 ≤ a ∧ a < b + 258) → a ≠ b + 220 → a ≠ b + 241 → h a = hb a) → mld_ G h b 0 n0 pg0 cc0 → mT_ gu G h b fs ((E0 ++ (List.range o).flatMap (fun o => (List.range O.length).flatMap (fun u => pgQ fl kd l1 l2 x3 x4 x5 x6 p4 ly vo mp sz X Y top O o u))) ++ (List.range O.length).flatMap (fun u => pgQ fl kd l1 l2 x3 x4 x5 x6 p4 ly vo mp sz X Y top O o u)) → V G mX13_goThrough (sv_MQ G mX13_goThrough Qr) 247 [(5, .int (nI o)), (4, .int 0), (3, .int l2), (2, .int l1), (1, .int (nI top)), (0, .ref (b + 220))] [] h z 0 0 := (by
      intro h2 fs2 v1 v2 v3 v4 v5 v6
      refine v_iinc (j := 0) (L' := [(5, _), (4, _), (3, _), (2, _), (1, _), (0, _)]) (v := nI (o + 1)) dX13_goThrough_247 rfl (nI_1 _) (Nat.le_of_ble_eq_true rfl) rfl ?_
      refine v_goto (tgt := 44) dX13_goThrough_250 (by decide) ?_
      refine v_sub (L' := [(5, _), (4, _), (3, _), (2, _), (1, _), (0, _)]) [0, 1, 2, 3, 4, 5] rfl ?_
      exact ih (o + 1) h2 fs2 (by omega) v1 v2 v3 v4 v5 (by rw [rgm_s, ← List.append_assoc]; exact v6))
    refine v_iload dX13_goThrough_44 0 rfl ?_
    refine v_aload_n dX13_goThrough_46 rfl 5 rfl ?_
    refine v_getf 36 (ci := 11) (C := RX13) (T := TX13) (N := 71) rfl iwX13_goThrough_X13 (Nat.le_of_ble_eq_true rfl) (by decide +kernel) dX13_goThrough_47 (by first | with_reducible assumption) (by repeat (first | with_reducible assumption | (with_reducible refine (sv_ls (by first | omega | (simp only [List.length_set]; omega))).trans ?_; exact rfl) | with_reducible refine (List.getElem?_set_ne (by decide)).trans ?_)) ?_
    refine v_icmp_ge (tgt := 253) dX13_goThrough_50 (by decide) (fun c_50 => ?_) (fun c_50 => ?_)
    · exact absurd c_50 (nI_ge ho (by omega))
    · refine v_iload dX13_goThrough_53 1 rfl ?_
      refine v_if_eq (tgt := 138) dX13_goThrough_55 (by decide) (fun c_55 => ?_) (fun c_55 => ?_)
      · refine v_iconst (v := 0) dX13_goThrough_138 (by decide) ?_
        refine v_istore (L' := [(6, _), (5, _), (4, _), (3, _), (2, _), (1, _), (0, _)]) dX13_goThrough_139 (Nat.le_of_ble_eq_true rfl) rfl ?_
        refine v_sub (L' := [(6, _), (5, _), (4, _), (3, _), (2, _), (1, _), (0, _)]) [0, 1, 2, 3, 4, 5, 6] rfl ?_
        refine l_goU G Qr z b nc np pl R hm p3 p4 sz ly vo mp X Y hb fs0 hq0 MY O MO OK ri kd l1 l2 x3 x4 x5 x6 RU h58 hen n0 pg0 cc0 LD fl h59 top htop h36 o ho (E0 ++ (List.range o).flatMap (fun o => (List.range O.length).flatMap (fun u => pgQ fl kd l1 l2 x3 x4 x5 x6 p4 ly vo mp sz X Y top O o u))) hkk O.length 0 h fs (Nat.zero_add _) hm9 hl hE fr L9 (by rw [List.range_zero, List.flatMap_nil, List.append_nil]; exact T)
      · exact absurd rfl c_55

set_option maxHeartbeats 4000000 in
set_option maxRecDepth 100000 in
theorem m_goThrough (G : sv_G) (z b nc np pl : Nat) (R : Nat → Bool) (hm p3 p4 sz : Nat → Nat) (ly vo : Nat → Int32) (mp : Nat → mvT) (X Y : Nat → Nat → Int) (hb : sv_h) (fs0 : List Value) (hq0 : mfq_ b nc np pl fs0) (MY : myl_ G hb b nc np pl R hm p3 p4 sz ly vo mp X Y) (O : List (List Nat × Nat)) (MO : moc_ G hb b O) (OK : mok_ np pl sz mp X Y O) (ri kd : Nat) (l1 l2 x3 x4 x5 x6 : Int32) (RU : mru_ G hb b ri kd l1 l2 x3 x4 x5 x6) (h58 : fs0[58]? = some (.int (nI ri))) (hen : x6 = -1 ∨ 0 ≤ x6) (n0 pg0 : Nat → Nat) (cc0 : Nat → Nat → Int × Int) (LD : mld_ G hb b 0 n0 pg0 cc0) (fl : Int32) (h59 : fs0[59]? = some (.int fl)) (top : Nat) (htop : top < nc) (h36 : fs0[36]? = some (.int (nI O.length))) (hm9 : hb (b + 220) = some (.inr (11, fs0))) (E0 : List (List Int64)) (T : mT_ gu G hb b fs0 E0) : CT G mX13_goThrough [.ref (b + 220), .int (nI top)] hb z (fun v9 h1 z1 => v9 = none ∧ z1 = z ∧ ∃ fs1, h1 (b + 220) = some (.inr (11, fs1)) ∧ fs1.length = 71 ∧ fsE [28, 29, 52, 53, 54, 55, 56, 57, 60, 61, 62] fs0 fs1 ∧ (∀ a, ¬ (b + 249 ≤ a ∧ a < b + 258) → a ≠ b + 220 → a ≠ b + 241 → h1 a = hb a) ∧ mld_ G h1 b 0 n0 pg0 cc0 ∧ mT_ gu G h1 b fs1 (E0 ++ goQ fl kd l1 l2 x3 x4 x5 x6 p4 ly vo mp sz X Y top O)) := by
  refine CT.of (by decide +kernel) rfl rfl (Nat.le_of_ble_eq_true rfl) ?_
  have hlen : fs0.length = 71 := hq0.1
  have f_layerA := hq0.f_layerA
  have f_layerB := hq0.f_layerB
  have f_kind := hq0.f_kind
  have f_rule := h58
  obtain ⟨r0, r1, ⟨j33, r33, r33a⟩, ⟨j34, r34, r34a⟩, ⟨j35, r35, r35a⟩, _⟩ := id RU
  refine v_aload_n dX13_goThrough_0 rfl 0 rfl ?_
  refine v_getf 20 (ci := 11) (C := RX13) (T := TX13) (N := 71) rfl iwX13_goThrough_X13 (Nat.le_of_ble_eq_true rfl) (by decide +kernel) dX13_goThrough_1 (by first | with_reducible assumption) (by repeat (first | with_reducible assumption | (with_reducible refine (sv_ls (by first | omega | (simp only [List.length_set]; omega))).trans ?_; exact rfl) | with_reducible refine (List.getElem?_set_ne (by decide)).trans ?_)) ?_
  refine v_aload_n dX13_goThrough_4 rfl 0 rfl ?_
  refine v_getf 58 (ci := 11) (C := RX13) (T := TX13) (N := 71) rfl iwX13_goThrough_X13 (Nat.le_of_ble_eq_true rfl) (by decide +kernel) dX13_goThrough_5 (by first | with_reducible assumption) (by repeat (first | with_reducible assumption | (with_reducible refine (sv_ls (by first | omega | (simp only [List.length_set]; omega))).trans ?_; exact rfl) | with_reducible refine (List.getElem?_set_ne (by decide)).trans ?_)) ?_
  refine v_ialdS (v := l1) dX13_goThrough_8 (by first | with_reducible assumption) (vp_in_nI (by omega) (by omega)) (by rw [nI_clamp (by omega)]; exact r34a) ?_
  refine v_istore_n (L' := [(2, _), (0, _), (1, _)]) dX13_goThrough_9 rfl (Nat.le_of_ble_eq_true rfl) rfl ?_
  refine v_aload_n dX13_goThrough_10 rfl 1 rfl ?_
  refine v_getf 21 (ci := 11) (C := RX13) (T := TX13) (N := 71) rfl iwX13_goThrough_X13 (Nat.le_of_ble_eq_true rfl) (by decide +kernel) dX13_goThrough_11 (by first | with_reducible assumption) (by repeat (first | with_reducible assumption | (with_reducible refine (sv_ls (by first | omega | (simp only [List.length_set]; omega))).trans ?_; exact rfl) | with_reducible refine (List.getElem?_set_ne (by decide)).trans ?_)) ?_
  refine v_aload_n dX13_goThrough_14 rfl 1 rfl ?_
  refine v_getf 58 (ci := 11) (C := RX13) (T := TX13) (N := 71) rfl iwX13_goThrough_X13 (Nat.le_of_ble_eq_true rfl) (by decide +kernel) dX13_goThrough_15 (by first | with_reducible assumption) (by repeat (first | with_reducible assumption | (with_reducible refine (sv_ls (by first | omega | (simp only [List.length_set]; omega))).trans ?_; exact rfl) | with_reducible refine (List.getElem?_set_ne (by decide)).trans ?_)) ?_
  refine v_ialdS (v := l2) dX13_goThrough_18 (by first | with_reducible assumption) (vp_in_nI (by omega) (by omega)) (by rw [nI_clamp (by omega)]; exact r35a) ?_
  refine v_istore_n (L' := [(3, _), (2, _), (0, _), (1, _)]) dX13_goThrough_19 rfl (Nat.le_of_ble_eq_true rfl) rfl ?_
  refine v_aload_n dX13_goThrough_20 rfl 2 rfl ?_
  refine v_getf 19 (ci := 11) (C := RX13) (T := TX13) (N := 71) rfl iwX13_goThrough_X13 (Nat.le_of_ble_eq_true rfl) (by decide +kernel) dX13_goThrough_21 (by first | with_reducible assumption) (by repeat (first | with_reducible assumption | (with_reducible refine (sv_ls (by first | omega | (simp only [List.length_set]; omega))).trans ?_; exact rfl) | with_reducible refine (List.getElem?_set_ne (by decide)).trans ?_)) ?_
  refine v_aload_n dX13_goThrough_24 rfl 2 rfl ?_
  refine v_getf 58 (ci := 11) (C := RX13) (T := TX13) (N := 71) rfl iwX13_goThrough_X13 (Nat.le_of_ble_eq_true rfl) (by decide +kernel) dX13_goThrough_25 (by first | with_reducible assumption) (by repeat (first | with_reducible assumption | (with_reducible refine (sv_ls (by first | omega | (simp only [List.length_set]; omega))).trans ?_; exact rfl) | with_reducible refine (List.getElem?_set_ne (by decide)).trans ?_)) ?_
  refine v_ialdS (v := nI kd) dX13_goThrough_28 (by first | with_reducible assumption) (vp_in_nI (by omega) (by omega)) (by rw [nI_clamp (by omega)]; exact r33a) ?_
  refine v_bipush (v := 7) dX13_goThrough_29 (by decide) ?_
  refine v_icmp_ge (tgt := 38) dX13_goThrough_31 (by decide) (fun c_31 => ?_) (fun c_31 => ?_)
  · refine v_iconst (v := 0) dX13_goThrough_38 (by decide) ?_
    refine v_istore (L' := [(4, _), (3, _), (2, _), (0, _), (1, _)]) dX13_goThrough_39 (Nat.le_of_ble_eq_true rfl) rfl ?_
    refine v_iconst (v := 0) dX13_goThrough_41 (by decide) ?_
    refine v_istore (L' := [(5, _), (4, _), (3, _), (2, _), (0, _), (1, _)]) dX13_goThrough_42 (Nat.le_of_ble_eq_true rfl) rfl ?_
    refine v_sub (L' := [(5, _), (4, _), (3, _), (2, _), (1, _), (0, _)]) [0, 1, 2, 3, 5, 4] rfl ?_
    first
      | (have k7 : ¬ kd < 7 := fun e9 => absurd c_31 (nI_ge (b := 7) e9 (by omega))
         exact l_go2 G (fun v9 h1 z1 => v9 = none ∧ z1 = z ∧ ∃ fs1, h1 (b + 220) = some (.inr (11, fs1)) ∧ fs1.length = 71 ∧ fsE [28, 29, 52, 53, 54, 55, 56, 57, 60, 61, 62] fs0 fs1 ∧ (∀ a, ¬ (b + 249 ≤ a ∧ a < b + 258) → a ≠ b + 220 → a ≠ b + 241 → h1 a = hb a) ∧ mld_ G h1 b 0 n0 pg0 cc0 ∧ mT_ gu G h1 b fs1 (E0 ++ goQ fl kd l1 l2 x3 x4 x5 x6 p4 ly vo mp sz X Y top O)) z b nc np pl R hm p3 p4 sz ly vo mp X Y hb fs0 hq0 MY O MO OK ri kd l1 l2 x3 x4 x5 x6 RU h58 hen n0 pg0 cc0 LD fl h59 top htop h36 E0 (fun h2 fs2 v1 v2 v3 v4 v5 v6 => ⟨rfl, rfl, fs2, v1, v2, v3, v4, v5, by rw [show goQ fl kd l1 l2 x3 x4 x5 x6 p4 ly vo mp sz X Y top O = _ from if_neg k7]; exact v6⟩) O.length 0 hb fs0 (Nat.zero_add _) hm9 hq0.1 fsE.rf (fun _ _ _ _ => rfl) LD (by rw [List.range_zero, List.flatMap_nil, List.append_nil]; exact T))
      | (have k7 : kd < 7 := Nat.lt_of_not_le (fun e9 => c_31 (nI_le (a := 7) e9 (by omega)))
         exact l_go1 G (fun v9 h1 z1 => v9 = none ∧ z1 = z ∧ ∃ fs1, h1 (b + 220) = some (.inr (11, fs1)) ∧ fs1.length = 71 ∧ fsE [28, 29, 52, 53, 54, 55, 56, 57, 60, 61, 62] fs0 fs1 ∧ (∀ a, ¬ (b + 249 ≤ a ∧ a < b + 258) → a ≠ b + 220 → a ≠ b + 241 → h1 a = hb a) ∧ mld_ G h1 b 0 n0 pg0 cc0 ∧ mT_ gu G h1 b fs1 (E0 ++ goQ fl kd l1 l2 x3 x4 x5 x6 p4 ly vo mp sz X Y top O)) z b nc np pl R hm p3 p4 sz ly vo mp X Y hb fs0 hq0 MY O MO OK ri kd l1 l2 x3 x4 x5 x6 RU h58 hen n0 pg0 cc0 LD fl h59 top htop h36 E0 (fun h2 fs2 v1 v2 v3 v4 v5 v6 => ⟨rfl, rfl, fs2, v1, v2, v3, v4, v5, by rw [show goQ fl kd l1 l2 x3 x4 x5 x6 p4 ly vo mp sz X Y top O = _ from if_pos k7]; exact v6⟩) O.length 0 hb fs0 (Nat.zero_add _) hm9 hq0.1 fsE.rf (fun _ _ _ _ => rfl) LD (by rw [List.range_zero, List.flatMap_nil, List.append_nil]; exact T))
  · refine v_iconst (v := 1) dX13_goThrough_34 (by decide) ?_
    refine v_goto (tgt := 39) dX13_goThrough_35 (by decide) ?_
    refine v_istore (L' := [(4, _), (3, _), (2, _), (0, _), (1, _)]) dX13_goThrough_39 (Nat.le_of_ble_eq_true rfl) rfl ?_
    refine v_iconst (v := 0) dX13_goThrough_41 (by decide) ?_
    refine v_istore (L' := [(5, _), (4, _), (3, _), (2, _), (0, _), (1, _)]) dX13_goThrough_42 (Nat.le_of_ble_eq_true rfl) rfl ?_
    refine v_sub (L' := [(5, _), (4, _), (3, _), (2, _), (1, _), (0, _)]) [0, 1, 2, 3, 5, 4] rfl ?_
    first
      | (have k7 : ¬ kd < 7 := fun e9 => absurd c_31 (nI_ge (b := 7) e9 (by omega))
         exact l_go2 G (fun v9 h1 z1 => v9 = none ∧ z1 = z ∧ ∃ fs1, h1 (b + 220) = some (.inr (11, fs1)) ∧ fs1.length = 71 ∧ fsE [28, 29, 52, 53, 54, 55, 56, 57, 60, 61, 62] fs0 fs1 ∧ (∀ a, ¬ (b + 249 ≤ a ∧ a < b + 258) → a ≠ b + 220 → a ≠ b + 241 → h1 a = hb a) ∧ mld_ G h1 b 0 n0 pg0 cc0 ∧ mT_ gu G h1 b fs1 (E0 ++ goQ fl kd l1 l2 x3 x4 x5 x6 p4 ly vo mp sz X Y top O)) z b nc np pl R hm p3 p4 sz ly vo mp X Y hb fs0 hq0 MY O MO OK ri kd l1 l2 x3 x4 x5 x6 RU h58 hen n0 pg0 cc0 LD fl h59 top htop h36 E0 (fun h2 fs2 v1 v2 v3 v4 v5 v6 => ⟨rfl, rfl, fs2, v1, v2, v3, v4, v5, by rw [show goQ fl kd l1 l2 x3 x4 x5 x6 p4 ly vo mp sz X Y top O = _ from if_neg k7]; exact v6⟩) O.length 0 hb fs0 (Nat.zero_add _) hm9 hq0.1 fsE.rf (fun _ _ _ _ => rfl) LD (by rw [List.range_zero, List.flatMap_nil, List.append_nil]; exact T))
      | (have k7 : kd < 7 := Nat.lt_of_not_le (fun e9 => c_31 (nI_le (a := 7) e9 (by omega)))
         exact l_go1 G (fun v9 h1 z1 => v9 = none ∧ z1 = z ∧ ∃ fs1, h1 (b + 220) = some (.inr (11, fs1)) ∧ fs1.length = 71 ∧ fsE [28, 29, 52, 53, 54, 55, 56, 57, 60, 61, 62] fs0 fs1 ∧ (∀ a, ¬ (b + 249 ≤ a ∧ a < b + 258) → a ≠ b + 220 → a ≠ b + 241 → h1 a = hb a) ∧ mld_ G h1 b 0 n0 pg0 cc0 ∧ mT_ gu G h1 b fs1 (E0 ++ goQ fl kd l1 l2 x3 x4 x5 x6 p4 ly vo mp sz X Y top O)) z b nc np pl R hm p3 p4 sz ly vo mp X Y hb fs0 hq0 MY O MO OK ri kd l1 l2 x3 x4 x5 x6 RU h58 hen n0 pg0 cc0 LD fl h59 top htop h36 E0 (fun h2 fs2 v1 v2 v3 v4 v5 v6 => ⟨rfl, rfl, fs2, v1, v2, v3, v4, v5, by rw [show goQ fl kd l1 l2 x3 x4 x5 x6 p4 ly vo mp sz X Y top O = _ from if_pos k7]; exact v6⟩) O.length 0 hb fs0 (Nat.zero_add _) hm9 hq0.1 fsE.rf (fun _ _ _ _ => rfl) LD (by rw [List.range_zero, List.flatMap_nil, List.append_nil]; exact T))

end GU
