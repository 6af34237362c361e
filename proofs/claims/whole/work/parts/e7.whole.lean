section GU
variable {gu : Nat → Int64}
theorem iwX13_whole_X13 : ∀ w ∈ wsX130, w ∈ wsX13_whole := by decide +kernel
set_option maxRecDepth 20000 in
theorem ggX13_whole_X13_load_p0 : GoodIn wsX13_whole [.code yX13_load cX13_load 7 none] := goodIn_r _ [18] (by decide +kernel) (by decide +kernel)
set_option maxRecDepth 20000 in
theorem ggX13_whole_X13_load_p1 : GoodIn wsX13_whole wsX13_load_r1 := goodIn_r _ [8, 19, 20, 21, 22, 23, 24, 25, 26, 27, 28, 29, 30, 31, 32, 17, 33, 34, 35, 36, 37, 38, 39, 40] (by decide +kernel) (by decide +kernel)
set_option maxRecDepth 20000 in
theorem ggX13_whole_X13_load_p2 : GoodIn wsX13_whole wsX13_load_r2 := goodIn_r _ [41, 42, 43, 44, 45, 46, 47, 48, 49, 50, 51] (by decide +kernel) (by decide +kernel)
theorem ggX13_whole_X13_load_p3 : GoodIn wsX13_whole wsX130 := goodIn_sub iwX13_whole_X13 (by decide +kernel)
theorem ggX13_whole_X13_load : GoodIn wsX13_whole wsX13_load := goodIn_cn ggX13_whole_X13_load_p0 (goodIn_app (goodIn_app ggX13_whole_X13_load_p1 ggX13_whole_X13_load_p2) ggX13_whole_X13_load_p3)
set_option maxRecDepth 20000 in
theorem gX13_whole_X13_load : GoodIn wsX13_whole (wsV RX13 310 RX13 yX13_load wsX13_load) := goodIn_app (goodIn_of _ (by decide +kernel)) ggX13_whole_X13_load
set_option maxRecDepth 20000 in
theorem ggX13_whole_X13_boxOf : GoodIn wsX13_whole wsX13_boxOf := goodIn_r _ [55, 28, 2, 29, 3, 4, 5, 20, 46, 47, 17, 48, 49, 50, 51, 90, 91, 92, 93, 94, 95, 96, 97, 98, 99, 100, 101, 102, 103, 104, 105, 106, 107, 108, 109, 110, 111, 112, 113, 114, 115, 116, 117, 118, 119, 120, 121, 122, 123, 124, 125, 126, 127, 128, 129, 130, 131, 132, 133, 134, 135, 136, 137, 138, 139, 140, 141, 142, 143, 144, 145, 146, 147, 148, 149, 150, 151, 152, 153, 154, 155, 156, 157, 158, 159, 160] (by decide +kernel) (by decide +kernel)
set_option maxRecDepth 20000 in
theorem gX13_whole_X13_boxOf : GoodIn wsX13_whole (wsV RX13 248 RX13 yX13_boxOf wsX13_boxOf) := goodIn_app (goodIn_of _ (by decide +kernel)) ggX13_whole_X13_boxOf
set_option maxRecDepth 20000 in
theorem ggX13_whole_X13_least : GoodIn wsX13_whole wsX13_least := goodIn_r _ [48] (by decide +kernel) (by decide +kernel)
set_option maxRecDepth 20000 in
theorem ggX13_whole_X13_most : GoodIn wsX13_whole wsX13_most := goodIn_r _ [51] (by decide +kernel) (by decide +kernel)
set_option maxRecDepth 20000 in
theorem ggX13_whole_X13_isOn : GoodIn wsX13_whole wsX13_isOn := goodIn_r _ [59, 60, 8, 90, 91, 92, 93, 94, 95, 96, 97, 98, 99, 100, 101, 102, 103, 104, 105, 106, 107, 108, 109, 110, 111, 112, 113, 114, 115, 116, 117, 118, 119, 120, 121, 122, 123, 124, 125, 126, 127, 128, 129, 130, 131, 132, 133, 134, 135, 136, 137, 138, 139, 140, 141, 142, 143, 144, 145, 146, 147, 148, 149, 150, 151, 152, 153, 154, 155, 156, 157, 158, 159, 160] (by decide +kernel) (by decide +kernel)
set_option maxRecDepth 20000 in
theorem gX13_whole_X13_isOn : GoodIn wsX13_whole (wsV RX13 317 RX13 yX13_isOn wsX13_isOn) := goodIn_app (goodIn_of _ (by decide +kernel)) ggX13_whole_X13_isOn
set_option maxRecDepth 20000 in
theorem ggX13_whole_X13_areaOf : GoodIn wsX13_whole wsX13_areaOf := goodIn_r _ [64, 65, 66, 67, 68, 17, 69, 21, 70, 71, 72, 73, 22, 74, 75, 76, 77, 24, 90, 91, 92, 93, 94, 95, 96, 97, 98, 99, 100, 101, 102, 103, 104, 105, 106, 107, 108, 109, 110, 111, 112, 113, 114, 115, 116, 117, 118, 119, 120, 121, 122, 123, 124, 125, 126, 127, 128, 129, 130, 131, 132, 133, 134, 135, 136, 137, 138, 139, 140, 141, 142, 143, 144, 145, 146, 147, 148, 149, 150, 151, 152, 153, 154, 155, 156, 157, 158, 159, 160] (by decide +kernel) (by decide +kernel)
set_option maxRecDepth 20000 in
theorem gX13_whole_X13_areaOf : GoodIn wsX13_whole (wsV RX13 296 RX13 yX13_areaOf wsX13_areaOf) := goodIn_app (goodIn_of _ (by decide +kernel)) ggX13_whole_X13_areaOf
set_option maxRecDepth 20000 in
theorem ggX13_whole_X13_tell : GoodIn wsX13_whole wsX13_tell := goodIn_r _ [81, 82, 83, 84, 12, 85, 86, 87, 17, 88, 23, 25, 11, 27, 89, 30, 31, 32, 33, 34, 35, 36, 46, 47, 48, 49, 50, 51, 90, 91, 92, 93, 94, 95, 96, 97, 98, 99, 100, 101, 102, 103, 104, 105, 106, 107, 108, 109, 110, 111, 112, 113, 114, 115, 116, 117, 118, 119, 120, 121, 122, 123, 124, 125, 126, 127, 128, 129, 130, 131, 132, 133, 134, 135, 136, 137, 138, 139, 140, 141, 142, 143, 144, 145, 146, 147, 148, 149, 150, 151, 152, 153, 154, 155, 156, 157, 158, 159, 160] (by decide +kernel) (by decide +kernel)
set_option maxRecDepth 20000 in
theorem gX13_whole_X13_tell : GoodIn wsX13_whole (wsV RX13 276 RX13 yX13_tell wsX13_tell) := goodIn_app (goodIn_of _ (by decide +kernel)) ggX13_whole_X13_tell
theorem dX13_whole_0 : decode cX13_whole 0 = .ok (.lconst 0, 1) := by decide +kernel
theorem dX13_whole_1 : decode cX13_whole 1 = .ok (.lstore_n 2, 1) := by decide +kernel
theorem dX13_whole_2 : decode cX13_whole 2 = .ok (.lconst 0, 1) := by decide +kernel
theorem dX13_whole_3 : decode cX13_whole 3 = .ok (.lstore 4, 2) := by decide +kernel
theorem dX13_whole_5 : decode cX13_whole 5 = .ok (.lconst 0, 1) := by decide +kernel
theorem dX13_whole_6 : decode cX13_whole 6 = .ok (.lstore 6, 2) := by decide +kernel
theorem dX13_whole_8 : decode cX13_whole 8 = .ok (.lconst 0, 1) := by decide +kernel
theorem dX13_whole_9 : decode cX13_whole 9 = .ok (.lstore 8, 2) := by decide +kernel
theorem dX13_whole_11 : decode cX13_whole 11 = .ok (.lconst 0, 1) := by decide +kernel
theorem dX13_whole_12 : decode cX13_whole 12 = .ok (.lstore 10, 2) := by decide +kernel
theorem dX13_whole_14 : decode cX13_whole 14 = .ok (.lconst 0, 1) := by decide +kernel
theorem dX13_whole_15 : decode cX13_whole 15 = .ok (.lstore 12, 2) := by decide +kernel
theorem dX13_whole_17 : decode cX13_whole 17 = .ok (.iconst 0, 1) := by decide +kernel
theorem dX13_whole_18 : decode cX13_whole 18 = .ok (.istore 14, 2) := by decide +kernel
theorem dX13_whole_20 : decode cX13_whole 20 = .ok (.iload 14, 2) := by decide +kernel
theorem dX13_whole_22 : decode cX13_whole 22 = .ok (.aload_n 0, 1) := by decide +kernel
theorem dX13_whole_23 : decode cX13_whole 23 = .ok (.getfield 208, 3) := by decide +kernel
theorem dX13_whole_26 : decode cX13_whole 26 = .ok (.if_icmp .ge 178, 3) := by decide +kernel
theorem dX13_whole_29 : decode cX13_whole 29 = .ok (.aload_n 0, 1) := by decide +kernel
theorem dX13_whole_30 : decode cX13_whole 30 = .ok (.iconst 0, 1) := by decide +kernel
theorem dX13_whole_31 : decode cX13_whole 31 = .ok (.iload 14, 2) := by decide +kernel
theorem dX13_whole_33 : decode cX13_whole 33 = .ok (.iconst 0, 1) := by decide +kernel
theorem dX13_whole_34 : decode cX13_whole 34 = .ok (.invokevirtual 310, 3) := by decide +kernel
theorem dX13_whole_37 : decode cX13_whole 37 = .ok (.aload_n 0, 1) := by decide +kernel
theorem dX13_whole_38 : decode cX13_whole 38 = .ok (.iconst 0, 1) := by decide +kernel
theorem dX13_whole_39 : decode cX13_whole 39 = .ok (.invokevirtual 248, 3) := by decide +kernel
theorem dX13_whole_42 : decode cX13_whole 42 = .ok (.iload 14, 2) := by decide +kernel
theorem dX13_whole_44 : decode cX13_whole 44 = .ok (.ifCond .ne 10, 3) := by decide +kernel
theorem dX13_whole_47 : decode cX13_whole 47 = .ok (.aload_n 0, 1) := by decide +kernel
theorem dX13_whole_48 : decode cX13_whole 48 = .ok (.getfield 236, 3) := by decide +kernel
theorem dX13_whole_51 : decode cX13_whole 51 = .ok (.goto 12, 3) := by decide +kernel
theorem dX13_whole_54 : decode cX13_whole 54 = .ok (.lload 6, 2) := by decide +kernel
theorem dX13_whole_56 : decode cX13_whole 56 = .ok (.aload_n 0, 1) := by decide +kernel
theorem dX13_whole_57 : decode cX13_whole 57 = .ok (.getfield 236, 3) := by decide +kernel
theorem dX13_whole_60 : decode cX13_whole 60 = .ok (.invokestatic 180, 3) := by decide +kernel
theorem dX13_whole_63 : decode cX13_whole 63 = .ok (.lstore 6, 2) := by decide +kernel
theorem dX13_whole_65 : decode cX13_whole 65 = .ok (.iload 14, 2) := by decide +kernel
theorem dX13_whole_67 : decode cX13_whole 67 = .ok (.ifCond .ne 10, 3) := by decide +kernel
theorem dX13_whole_70 : decode cX13_whole 70 = .ok (.aload_n 0, 1) := by decide +kernel
theorem dX13_whole_71 : decode cX13_whole 71 = .ok (.getfield 239, 3) := by decide +kernel
theorem dX13_whole_74 : decode cX13_whole 74 = .ok (.goto 12, 3) := by decide +kernel
theorem dX13_whole_77 : decode cX13_whole 77 = .ok (.lload 8, 2) := by decide +kernel
theorem dX13_whole_79 : decode cX13_whole 79 = .ok (.aload_n 0, 1) := by decide +kernel
theorem dX13_whole_80 : decode cX13_whole 80 = .ok (.getfield 239, 3) := by decide +kernel
theorem dX13_whole_83 : decode cX13_whole 83 = .ok (.invokestatic 180, 3) := by decide +kernel
theorem dX13_whole_86 : decode cX13_whole 86 = .ok (.lstore 8, 2) := by decide +kernel
theorem dX13_whole_88 : decode cX13_whole 88 = .ok (.iload 14, 2) := by decide +kernel
theorem dX13_whole_90 : decode cX13_whole 90 = .ok (.ifCond .ne 10, 3) := by decide +kernel
theorem dX13_whole_93 : decode cX13_whole 93 = .ok (.aload_n 0, 1) := by decide +kernel
theorem dX13_whole_94 : decode cX13_whole 94 = .ok (.getfield 242, 3) := by decide +kernel
theorem dX13_whole_97 : decode cX13_whole 97 = .ok (.goto 12, 3) := by decide +kernel
theorem dX13_whole_100 : decode cX13_whole 100 = .ok (.lload 10, 2) := by decide +kernel
theorem dX13_whole_102 : decode cX13_whole 102 = .ok (.aload_n 0, 1) := by decide +kernel
theorem dX13_whole_103 : decode cX13_whole 103 = .ok (.getfield 242, 3) := by decide +kernel
theorem dX13_whole_106 : decode cX13_whole 106 = .ok (.invokestatic 184, 3) := by decide +kernel
theorem dX13_whole_109 : decode cX13_whole 109 = .ok (.lstore 10, 2) := by decide +kernel
theorem dX13_whole_111 : decode cX13_whole 111 = .ok (.iload 14, 2) := by decide +kernel
theorem dX13_whole_113 : decode cX13_whole 113 = .ok (.ifCond .ne 10, 3) := by decide +kernel
theorem dX13_whole_116 : decode cX13_whole 116 = .ok (.aload_n 0, 1) := by decide +kernel
theorem dX13_whole_117 : decode cX13_whole 117 = .ok (.getfield 245, 3) := by decide +kernel
theorem dX13_whole_120 : decode cX13_whole 120 = .ok (.goto 12, 3) := by decide +kernel
theorem dX13_whole_123 : decode cX13_whole 123 = .ok (.lload 12, 2) := by decide +kernel
theorem dX13_whole_125 : decode cX13_whole 125 = .ok (.aload_n 0, 1) := by decide +kernel
theorem dX13_whole_126 : decode cX13_whole 126 = .ok (.getfield 245, 3) := by decide +kernel
theorem dX13_whole_129 : decode cX13_whole 129 = .ok (.invokestatic 184, 3) := by decide +kernel
theorem dX13_whole_132 : decode cX13_whole 132 = .ok (.lstore 12, 2) := by decide +kernel
theorem dX13_whole_134 : decode cX13_whole 134 = .ok (.lload_n 2, 1) := by decide +kernel
theorem dX13_whole_135 : decode cX13_whole 135 = .ok (.aload_n 0, 1) := by decide +kernel
theorem dX13_whole_136 : decode cX13_whole 136 = .ok (.iload 14, 2) := by decide +kernel
theorem dX13_whole_138 : decode cX13_whole 138 = .ok (.aload_n 0, 1) := by decide +kernel
theorem dX13_whole_139 : decode cX13_whole 139 = .ok (.getfield 50, 3) := by decide +kernel
theorem dX13_whole_142 : decode cX13_whole 142 = .ok (.aload_n 0, 1) := by decide +kernel
theorem dX13_whole_143 : decode cX13_whole 143 = .ok (.getfield 254, 3) := by decide +kernel
theorem dX13_whole_146 : decode cX13_whole 146 = .ok (.iaload, 1) := by decide +kernel
theorem dX13_whole_147 : decode cX13_whole 147 = .ok (.invokevirtual 317, 3) := by decide +kernel
theorem dX13_whole_150 : decode cX13_whole 150 = .ok (.ifCond .eq 17, 3) := by decide +kernel
theorem dX13_whole_153 : decode cX13_whole 153 = .ok (.aload_n 0, 1) := by decide +kernel
theorem dX13_whole_154 : decode cX13_whole 154 = .ok (.aload_n 0, 1) := by decide +kernel
theorem dX13_whole_155 : decode cX13_whole 155 = .ok (.getfield 86, 3) := by decide +kernel
theorem dX13_whole_158 : decode cX13_whole 158 = .ok (.iload 14, 2) := by decide +kernel
theorem dX13_whole_160 : decode cX13_whole 160 = .ok (.iaload, 1) := by decide +kernel
theorem dX13_whole_161 : decode cX13_whole 161 = .ok (.invokevirtual 296, 3) := by decide +kernel
theorem dX13_whole_164 : decode cX13_whole 164 = .ok (.goto 4, 3) := by decide +kernel
theorem dX13_whole_167 : decode cX13_whole 167 = .ok (.lconst 0, 1) := by decide +kernel
theorem dX13_whole_168 : decode cX13_whole 168 = .ok (.ladd, 1) := by decide +kernel
theorem dX13_whole_169 : decode cX13_whole 169 = .ok (.lstore_n 2, 1) := by decide +kernel
theorem dX13_whole_170 : decode cX13_whole 170 = .ok (.lload 4, 2) := by decide +kernel
theorem dX13_whole_172 : decode cX13_whole 172 = .ok (.aload_n 0, 1) := by decide +kernel
theorem dX13_whole_173 : decode cX13_whole 173 = .ok (.iload 14, 2) := by decide +kernel
theorem dX13_whole_175 : decode cX13_whole 175 = .ok (.aload_n 0, 1) := by decide +kernel
theorem dX13_whole_176 : decode cX13_whole 176 = .ok (.getfield 50, 3) := by decide +kernel
theorem dX13_whole_179 : decode cX13_whole 179 = .ok (.aload_n 0, 1) := by decide +kernel
theorem dX13_whole_180 : decode cX13_whole 180 = .ok (.getfield 254, 3) := by decide +kernel
theorem dX13_whole_183 : decode cX13_whole 183 = .ok (.iaload, 1) := by decide +kernel
theorem dX13_whole_184 : decode cX13_whole 184 = .ok (.invokevirtual 317, 3) := by decide +kernel
theorem dX13_whole_187 : decode cX13_whole 187 = .ok (.ifCond .eq 7, 3) := by decide +kernel
theorem dX13_whole_190 : decode cX13_whole 190 = .ok (.lconst 1, 1) := by decide +kernel
theorem dX13_whole_191 : decode cX13_whole 191 = .ok (.goto 4, 3) := by decide +kernel
theorem dX13_whole_194 : decode cX13_whole 194 = .ok (.lconst 0, 1) := by decide +kernel
theorem dX13_whole_195 : decode cX13_whole 195 = .ok (.ladd, 1) := by decide +kernel
theorem dX13_whole_196 : decode cX13_whole 196 = .ok (.lstore 4, 2) := by decide +kernel
theorem dX13_whole_198 : decode cX13_whole 198 = .ok (.iinc 14 1, 3) := by decide +kernel
theorem dX13_whole_201 : decode cX13_whole 201 = .ok (.goto (-181), 3) := by decide +kernel
theorem dX13_whole_204 : decode cX13_whole 204 = .ok (.aload_n 0, 1) := by decide +kernel
theorem dX13_whole_205 : decode cX13_whole 205 = .ok (.getfield 47, 3) := by decide +kernel
theorem dX13_whole_208 : decode cX13_whole 208 = .ok (.aload_n 0, 1) := by decide +kernel
theorem dX13_whole_209 : decode cX13_whole 209 = .ok (.getfield 254, 3) := by decide +kernel
theorem dX13_whole_212 : decode cX13_whole 212 = .ok (.iaload, 1) := by decide +kernel
theorem dX13_whole_213 : decode cX13_whole 213 = .ok (.bipush 6, 2) := by decide +kernel
theorem dX13_whole_215 : decode cX13_whole 215 = .ok (.if_icmp .ne 8, 3) := by decide +kernel
theorem dX13_whole_218 : decode cX13_whole 218 = .ok (.lload 4, 2) := by decide +kernel
theorem dX13_whole_220 : decode cX13_whole 220 = .ok (.goto 31, 3) := by decide +kernel
theorem dX13_whole_223 : decode cX13_whole 223 = .ok (.aload_n 0, 1) := by decide +kernel
theorem dX13_whole_224 : decode cX13_whole 224 = .ok (.getfield 208, 3) := by decide +kernel
theorem dX13_whole_227 : decode cX13_whole 227 = .ok (.ifCond .ne 7, 3) := by decide +kernel
theorem dX13_whole_230 : decode cX13_whole 230 = .ok (.lconst 0, 1) := by decide +kernel
theorem dX13_whole_231 : decode cX13_whole 231 = .ok (.goto 20, 3) := by decide +kernel
theorem dX13_whole_234 : decode cX13_whole 234 = .ok (.lload_n 2, 1) := by decide +kernel
theorem dX13_whole_235 : decode cX13_whole 235 = .ok (.ldc2_w 221, 3) := by decide +kernel
theorem dX13_whole_238 : decode cX13_whole 238 = .ok (.lmul, 1) := by decide +kernel
theorem dX13_whole_239 : decode cX13_whole 239 = .ok (.lload 10, 2) := by decide +kernel
theorem dX13_whole_241 : decode cX13_whole 241 = .ok (.lload 6, 2) := by decide +kernel
theorem dX13_whole_243 : decode cX13_whole 243 = .ok (.lsub, 1) := by decide +kernel
theorem dX13_whole_244 : decode cX13_whole 244 = .ok (.lload 12, 2) := by decide +kernel
theorem dX13_whole_246 : decode cX13_whole 246 = .ok (.lload 8, 2) := by decide +kernel
theorem dX13_whole_248 : decode cX13_whole 248 = .ok (.lsub, 1) := by decide +kernel
theorem dX13_whole_249 : decode cX13_whole 249 = .ok (.lmul, 1) := by decide +kernel
theorem dX13_whole_250 : decode cX13_whole 250 = .ok (.ldiv, 1) := by decide +kernel
theorem dX13_whole_251 : decode cX13_whole 251 = .ok (.lstore 14, 2) := by decide +kernel
theorem dX13_whole_253 : decode cX13_whole 253 = .ok (.aload_n 0, 1) := by decide +kernel
theorem dX13_whole_254 : decode cX13_whole 254 = .ok (.iconst 0, 1) := by decide +kernel
theorem dX13_whole_255 : decode cX13_whole 255 = .ok (.putfield 270, 3) := by decide +kernel
theorem dX13_whole_258 : decode cX13_whole 258 = .ok (.aload_n 0, 1) := by decide +kernel
theorem dX13_whole_259 : decode cX13_whole 259 = .ok (.iload_n 1, 1) := by decide +kernel
theorem dX13_whole_260 : decode cX13_whole 260 = .ok (.putfield 264, 3) := by decide +kernel
theorem dX13_whole_263 : decode cX13_whole 263 = .ok (.lload 14, 2) := by decide +kernel
theorem dX13_whole_265 : decode cX13_whole 265 = .ok (.aload_n 0, 1) := by decide +kernel
theorem dX13_whole_266 : decode cX13_whole 266 = .ok (.getfield 56, 3) := by decide +kernel
theorem dX13_whole_269 : decode cX13_whole 269 = .ok (.aload_n 0, 1) := by decide +kernel
theorem dX13_whole_270 : decode cX13_whole 270 = .ok (.getfield 254, 3) := by decide +kernel
theorem dX13_whole_273 : decode cX13_whole 273 = .ok (.laload, 1) := by decide +kernel
theorem dX13_whole_274 : decode cX13_whole 274 = .ok (.lcmp, 1) := by decide +kernel
theorem dX13_whole_275 : decode cX13_whole 275 = .ok (.ifCond .ge 19, 3) := by decide +kernel
theorem dX13_whole_278 : decode cX13_whole 278 = .ok (.aload_n 0, 1) := by decide +kernel
theorem dX13_whole_279 : decode cX13_whole 279 = .ok (.lload 6, 2) := by decide +kernel
theorem dX13_whole_281 : decode cX13_whole 281 = .ok (.lload 8, 2) := by decide +kernel
theorem dX13_whole_283 : decode cX13_whole 283 = .ok (.lload 10, 2) := by decide +kernel
theorem dX13_whole_285 : decode cX13_whole 285 = .ok (.lload 12, 2) := by decide +kernel
theorem dX13_whole_287 : decode cX13_whole 287 = .ok (.iconst (-1), 1) := by decide +kernel
theorem dX13_whole_288 : decode cX13_whole 288 = .ok (.iconst (-1), 1) := by decide +kernel
theorem dX13_whole_289 : decode cX13_whole 289 = .ok (.lload 14, 2) := by decide +kernel
theorem dX13_whole_291 : decode cX13_whole 291 = .ok (.invokevirtual 276, 3) := by decide +kernel
theorem dX13_whole_294 : decode cX13_whole 294 = .ok (.return_, 1) := by decide +kernel

abbrev mX13_whole : sv_M := (cX13_whole, 16, yX13_whole, wsX13_whole, none, { frames := 8, cells := 0, slots := 0, locals := 200 }, [])
/-- the boxes of the occurrences, as the model loads them -/
def bxW (mp : Nat → mvT) (sz : Nat → Nat) (X Y : Nat → Nat → Int) (O : List (List Nat × Nat)) (i j : Nat) : Int := bxk (crR (crD mp X Y (O.getD i ([], 0)) 0) (sz (O.getD i ([], 0)).2)) (sz (O.getD i ([], 0)).2 - 1) j
/-- the area on a layer -/
def arW (f : Nat → Int) (ly : Nat → Int32) (l1 : Int32) (O : List (List Nat × Nat)) : Nat → Int | 0 => 0 | n + 1 => arW f ly l1 O n + (if ly (O.getD n ([], 0)).2 = l1 then f (O.getD n ([], 0)).2 else 0)
theorem arW_p {f : Nat → Int} {ly : Nat → Int32} {l1 : Int32} {O : List (List Nat × Nat)} {n : Nat} (h : ly (O.getD n ([], 0)).2 = l1) : arW f ly l1 O (n + 1) = arW f ly l1 O n + f (O.getD n ([], 0)).2 := congrArg (arW f ly l1 O n + ·) (if_pos h)
theorem arW_n {f : Nat → Int} {ly : Nat → Int32} {l1 : Int32} {O : List (List Nat × Nat)} {n : Nat} (h : ¬ ly (O.getD n ([], 0)).2 = l1) : arW f ly l1 O (n + 1) = arW f ly l1 O n := (congrArg (arW f ly l1 O n + ·) (if_neg h)).trans (Int.add_zero _)
theorem cnW_p {ly : Nat → Int32} {l1 : Int32} {O : List (List Nat × Nat)} {n : Nat} (h : ly (O.getD n ([], 0)).2 = l1) : ((cnS ly l1 O (n + 1) : Nat) : Int) = ((cnS ly l1 O n : Nat) : Int) + 1 := congrArg Int.ofNat (congrArg (cnS ly l1 O n + ·) (if_pos h))
theorem cnW_n {ly : Nat → Int32} {l1 : Int32} {O : List (List Nat × Nat)} {n : Nat} (h : ¬ ly (O.getD n ([], 0)).2 = l1) : ((cnS ly l1 O (n + 1) : Nat) : Int) = ((cnS ly l1 O n : Nat) : Int) := congrArg Int.ofNat (congrArg (cnS ly l1 O n + ·) (if_neg h))
theorem spW_0 (B : Nat → Nat → Int) (j : Nat) : spn B (0 + 1) j = B 0 j := if_pos rfl
theorem spW_z {B : Nat → Nat → Int} {n j : Nat} (h : n = 0) : spn B (n + 1) j = B n j := by subst h; exact if_pos rfl
theorem spW_l {B : Nat → Nat → Int} {n j : Nat} (h : 0 < n) (hj : j < 2) : spn B (n + 1) j = min (spn B n j) (B n j) := (if_neg (by omega)).trans (if_pos hj)
theorem spW_h {B : Nat → Nat → Int} {n j : Nat} (h : 0 < n) (hj : ¬ j < 2) : spn B (n + 1) j = max (spn B n j) (B n j) := (if_neg (by omega)).trans (if_neg hj)
theorem spW_b {B : Nat → Nat → Int} {m : Nat} (h : ∀ i j, i < m → -200000 ≤ B i j ∧ B i j ≤ 200000) : ∀ n j, n ≤ m → -200000 ≤ spn B n j ∧ spn B n j ≤ 200000
  | 0, j, _ => by show (-200000 : Int) ≤ 0 ∧ (0 : Int) ≤ 200000; omega
  | n + 1, j, hn => by
    have a := spW_b h n j (by omega)
    have b := h n j (by omega)
    by_cases e : n = 0
    · subst e; rw [spW_0]; exact b
    · by_cases e2 : j < 2
      · rw [spW_l (by omega) e2]; omega
      · rw [spW_h (by omega) e2]; omega
theorem spW_w {B : Nat → Nat → Int} {m : Nat} (h : ∀ i, i < m → B i 0 < B i 2 ∧ B i 1 < B i 3) : ∀ n, n ≤ m → 0 < n → spn B n 0 < spn B n 2 ∧ spn B n 1 < spn B n 3
  | 0, _, h0 => absurd h0 (by decide)
  | n + 1, hn, _ => by
    have b := h n (by omega)
    by_cases e : n = 0
    · subst e; rw [spW_0, spW_0, spW_0, spW_0]; exact b
    · have a := spW_w h n (by omega) (by omega)
      rw [spW_l (j := 0) (by omega) (by decide), spW_l (j := 1) (by omega) (by decide), spW_h (j := 2) (by omega) (by decide), spW_h (j := 3) (by omega) (by decide)]
      omega
/-- the measure of a whole cell, and what is told of it -/
def mwW (kd N : Nat) (A : Int) (n : Nat) (s : Nat → Int) : Int64 := if kd = 6 then jN (n : Int) else if N = 0 then 0 else jN A * 100 / jN ((s 2 - s 0) * (s 3 - s 1))
def whQ (kd : Nat) (x3 : Int32) (top N : Nat) (A : Int) (n : Nat) (s : Nat → Int) : List (List Int64) := if (mwW kd N A n s).toInt < x3.toInt then [mvR mvI (rwI (s 0) (s 1) (s 2) (s 3) (-1) (-1) (mwW kd N A n s).toInt (top : Int))] else []
theorem jn_nz {a b : Int} (ha : 0 < a ∧ a ≤ 400000) (hb : 0 < b ∧ b ≤ 400000) : jN (a * b) ≠ 0 := by
  have h1 : 0 < a * b := Int.mul_pos ha.1 hb.1
  have h2 : a * b ≤ 400000 * 400000 := Int.mul_le_mul ha.2 hb.2 (by omega) (by omega)
  intro e
  have q := congrArg Int64.toInt e
  rw [jN_to (by omega) (by omega)] at q
  have q : a * b = 0 := q
  omega
set_option maxHeartbeats 4000000 in
set_option maxRecDepth 100000 in
theorem l_wh (G : sv_G) (Qr : Option Value → sv_h → Nat → Prop) (z b nc np pl : Nat) (R : Nat → Bool) (hm p3 p4 sz : Nat → Nat) (ly vo : Nat → Int32) (mp : Nat → mvT) (X Y : Nat → Nat → Int) (hb : sv_h) (fs0 : List Value) (hq0 : mfq_ b nc np pl fs0) (MY : myl_ G hb b nc np pl R hm p3 p4 sz ly vo mp X Y) (O : List (List Nat × Nat)) (MO : moc_ G hb b O) (OK : mok_ np pl sz mp X Y O) (ri kd : Nat) (l1 l2 x3 x4 x5 x6 : Int32) (RU : mru_ G hb b ri kd l1 l2 x3 x4 x5 x6) (h58 : fs0[58]? = some (.int (nI ri))) (hen : x6 = -1 ∨ 0 ≤ x6) (n0 pg0 : Nat → Nat) (cc0 : Nat → Nat → Int × Int) (LD : mld_ G hb b 0 n0 pg0 cc0) (top : Nat) (htop : top < nc) (h36 : fs0[36]? = some (.int (nI O.length))) (hk : ∀ (h : sv_h) (fs : List Value), h (b + 220) = some (.inr (11, fs)) → fs.length = 71 → fsE [52, 53, 54, 55, 56, 57] fs0 fs → (∀ a, ¬ (b + 249 ≤ a ∧ a < b + 258) → a ≠ b + 220 → h a = hb a) → mld_ G h b 0 n0 pg0 cc0 → V G mX13_whole (sv_MQ G mX13_whole Qr) 204 [(12, .long (jN (spn (bxW mp sz X Y O) O.length 3))), (10, .long (jN (spn (bxW mp sz X Y O) O.length 2))), (8, .long (jN (spn (bxW mp sz X Y O) O.length 1))), (6, .long (jN (spn (bxW mp sz X Y O) O.length 0))), (4, .long (jN ((cnS ly l1 O O.length : Nat) : Int))), (2, .long (jN (arW (fun p => arM (crR (fun k => (X p k, Y p k)) (sz p)) (sz p)) ly l1 O O.length))), (1, .int (nI top)), (0, .ref (b + 220))] [] h z 0 0) : ∀ (e o : Nat) (h : sv_h) (fs : List Value), o + e = O.length → h (b + 220) = some (.inr (11, fs)) → fs.length = 71 → fsE [52, 53, 54, 55, 56, 57] fs0 fs → (∀ a, ¬ (b + 249 ≤ a ∧ a < b + 258) → a ≠ b + 220 → h a = hb a) → mld_ G h b 0 n0 pg0 cc0 → V G mX13_whole (sv_MQ G mX13_whole Qr) 20 [(14, .int (nI o)), (12, .long (jN (spn (bxW mp sz X Y O) o 3))), (10, .long (jN (spn (bxW mp sz X Y O) o 2))), (8, .long (jN (spn (bxW mp sz X Y O) o 1))), (6, .long (jN (spn (bxW mp sz X Y O) o 0))), (4, .long (jN ((cnS ly l1 O o : Nat) : Int))), (2, .long (jN (arW (fun p => arM (crR (fun k => (X p k, Y p k)) (sz p)) (sz p)) ly l1 O o))), (1, .int (nI top)), (0, .ref (b + 220))] [] h z 0 0 := by
  intro e
  induction e with
  | zero =>
    intro o h fs hoe hm9 hl hE fr L9
    have hqf := hq0.to (S := [52, 53, 54, 55, 56, 57]) hl hE (by decide)
    have hlen : fs.length = 71 := hl
    obtain ⟨fp, fd, fw, o1, o2, o3, o4, o5⟩ := id MO
    obtain ⟨_, _, _, _, _, _, _, _, _, _, _, yB, yC, yD, yE, yF⟩ := id MY
    obtain ⟨r0, r1, ⟨j33, r33, r33a⟩, ⟨j34, r34, r34a⟩, _, ⟨j36, r36, r36a⟩, _, _, _⟩ := id RU
    have f_occurrences : fs[36]? = some (.int (nI O.length)) := (hE 36 (by decide)).trans h36
    have f_rule : fs[58]? = some (.int (nI ri)) := (hE 58 (by decide)).trans h58
    have f_polygon := hqf.f_polygon
    have f_layerA := hqf.f_layerA
    have f_kind := hqf.f_kind
    have f_bound := hqf.f_bound
    have w244 : ab_I G h (b + 244) 100 fp := (fr _ (by omega) (by omega)).trans o1
    have w233 : ab_I G h (b + 233) 40 j33 := (fr _ (by omega) (by omega)).trans r33
    have w234 : ab_I G h (b + 234) 40 j34 := (fr _ (by omega) (by omega)).trans r34
    have w236 : ab_J G h (b + 236) 40 j36 := (fr _ (by omega) (by omega)).trans r36
    have hBb : ∀ i j, i < O.length → -200000 ≤ (bxW mp sz X Y O) i j ∧ (bxW mp sz X Y O) i j ≤ 200000 := fun i j hi => (by
      obtain ⟨q1, q2, q3, q4, _⟩ := OK _ (getD_mem ([], 0) hi)
      exact bxk_b (crR_b q3 (q4 0 (Nat.zero_le _))) (by omega) j)
    have e9 : o = O.length := by omega
    subst e9
    refine v_iload dX13_whole_20 0 rfl ?_
    refine v_aload_n dX13_whole_22 rfl 8 rfl ?_
    refine v_getf 36 (ci := 11) (C := RX13) (T := TX13) (N := 71) rfl iwX13_whole_X13 (Nat.le_of_ble_eq_true rfl) (by decide +kernel) dX13_whole_23 (by first | with_reducible assumption) (by repeat (first | with_reducible assumption | (with_reducible refine (sv_ls (by first | omega | (simp only [List.length_set]; omega))).trans ?_; exact rfl) | with_reducible refine (List.getElem?_set_ne (by decide)).trans ?_)) ?_
    refine v_icmp_ge (tgt := 204) dX13_whole_26 (by decide) (fun c_26 => ?_) (fun c_26 => ?_)
    · refine v_sub (L' := [(12, _), (10, _), (8, _), (6, _), (4, _), (2, _), (1, _), (0, _)]) [1, 2, 3, 4, 5, 6, 7, 8] rfl ?_
      exact hk h fs hm9 hl hE fr L9
    · exact absurd (nI_le (Nat.le_refl _) (by omega)) c_26
  | succ e ih =>
    intro o h fs hoe hm9 hl hE fr L9
    have hqf := hq0.to (S := [52, 53, 54, 55, 56, 57]) hl hE (by decide)
    have hlen : fs.length = 71 := hl
    obtain ⟨fp, fd, fw, o1, o2, o3, o4, o5⟩ := id MO
    obtain ⟨_, _, _, _, _, _, _, _, _, _, _, yB, yC, yD, yE, yF⟩ := id MY
    obtain ⟨r0, r1, ⟨j33, r33, r33a⟩, ⟨j34, r34, r34a⟩, _, ⟨j36, r36, r36a⟩, _, _, _⟩ := id RU
    have f_occurrences : fs[36]? = some (.int (nI O.length)) := (hE 36 (by decide)).trans h36
    have f_rule : fs[58]? = some (.int (nI ri)) := (hE 58 (by decide)).trans h58
    have f_polygon := hqf.f_polygon
    have f_layerA := hqf.f_layerA
    have f_kind := hqf.f_kind
    have f_bound := hqf.f_bound
    have w244 : ab_I G h (b + 244) 100 fp := (fr _ (by omega) (by omega)).trans o1
    have w233 : ab_I G h (b + 233) 40 j33 := (fr _ (by omega) (by omega)).trans r33
    have w234 : ab_I G h (b + 234) 40 j34 := (fr _ (by omega) (by omega)).trans r34
    have w236 : ab_J G h (b + 236) 40 j36 := (fr _ (by omega) (by omega)).trans r36
    have hBb : ∀ i j, i < O.length → -200000 ≤ (bxW mp sz X Y O) i j ∧ (bxW mp sz X Y O) i j ≤ 200000 := fun i j hi => (by
      obtain ⟨q1, q2, q3, q4, _⟩ := OK _ (getD_mem ([], 0) hi)
      exact bxk_b (crR_b q3 (q4 0 (Nat.zero_le _))) (by omega) j)
    have ho : o < O.length := by omega
    obtain ⟨o6, o7, o8, o9⟩ := o5 o ho
    obtain ⟨ko1, ko2, ko3, ko4, ko6⟩ := OK _ (getD_mem ([], 0) ho)
    have bo := fun j => hBb o j ho
    have so := fun j => spW_b hBb o j (by omega)
    have hXY : ∀ i, i < sz (O.getD o ([], 0)).2 → (-200000 ≤ X (O.getD o ([], 0)).2 i ∧ X (O.getD o ([], 0)).2 i ≤ 200000) ∧ (-200000 ≤ Y (O.getD o ([], 0)).2 i ∧ Y (O.getD o ([], 0)).2 i ≤ 200000) := (by
      intro i hi
      have q9 := ko4 _ (Nat.le_refl _) i hi
      rw [crD_z] at q9
      exact q9)
    by_cases ez : o = 0
    · skip
      refine v_iload dX13_whole_20 0 rfl ?_
      refine v_aload_n dX13_whole_22 rfl 8 rfl ?_
      refine v_getf 36 (ci := 11) (C := RX13) (T := TX13) (N := 71) rfl iwX13_whole_X13 (Nat.le_of_ble_eq_true rfl) (by decide +kernel) dX13_whole_23 (by first | with_reducible assumption) (by repeat (first | with_reducible assumption | (with_reducible refine (sv_ls (by first | omega | (simp only [List.length_set]; omega))).trans ?_; exact rfl) | with_reducible refine (List.getElem?_set_ne (by decide)).trans ?_)) ?_
      refine v_icmp_ge (tgt := 204) dX13_whole_26 (by decide) (fun c_26 => ?_) (fun c_26 => ?_)
      · exact absurd c_26 (nI_ge ho (by omega))
      · refine v_aload_n dX13_whole_29 rfl 8 rfl ?_
        refine v_iconst (v := 0) dX13_whole_30 (by decide) ?_
        refine v_iload dX13_whole_31 0 rfl ?_
        refine v_iconst (v := 0) dX13_whole_33 (by decide) ?_
        refine v_callVq (M' := mX13_load) (n := 3) (As := [_, _, _]) (ci := 11) (r := (RX13, TX13, 71)) gX13_whole_X13_load rfl (by decide +kernel) ⟨(Nat.le_of_ble_eq_true rfl), (Nat.le_of_ble_eq_true rfl)⟩ rfl rfl dX13_whole_34 rfl ⟨(Nat.le_of_ble_eq_true rfl), (Nat.le_of_ble_eq_true rfl)⟩ (Nat.le_of_ble_eq_true rfl) (by first | with_reducible assumption) rfl (m_loadL G _ b nc np pl R hm p3 p4 sz ly vo mp X Y h fs hqf (MY.kp (fun a p1 p2 => fr a (by omega) (by omega))) O (MO.kp (fun a p1 p2 => fr a (by omega) (by omega))) o ho ko1 ko2 0 (Nat.zero_le _) 0 (by decide) (fun _ => sz (O.getD o ([], 0)).2) (fun _ => (O.getD o ([], 0)).2) (fun _ => crR (crD mp X Y (O.getD o ([], 0)) 0) (sz (O.getD o ([], 0)).2)) L9.z (fun w hw => absurd hw (Nat.not_lt_zero w)) rfl rfl rfl hm9 ko3 (ko4 _ (Nat.zero_le _))) (fun v9 h1 z1 hq9 => ?_)
        obtain ⟨rfl, rfl, ⟨fs1, u1, u2, u3⟩, L1, u4⟩ := hq9
        obtain ⟨fsd, fo, ft, ff, gx, gy, gp, gl, gh, d49, d50, d51, d52, d53, d54, d55, d56, d57, dd⟩ := id L1
        obtain ⟨s1, s2, s3, s4, s5⟩ := dd 0 (by decide)
        refine v_aload_n dX13_whole_37 rfl 8 rfl ?_
        refine v_iconst (v := 0) dX13_whole_38 (by decide) ?_
        refine v_callVq (M' := mX13_boxOf) (n := 1) (As := [_]) (ci := 11) (r := (RX13, TX13, 71)) gX13_whole_X13_boxOf rfl (by decide +kernel) ⟨(Nat.le_of_ble_eq_true rfl), (Nat.le_of_ble_eq_true rfl)⟩ rfl rfl dX13_whole_39 rfl ⟨(Nat.le_of_ble_eq_true rfl), (Nat.le_of_ble_eq_true rfl)⟩ (Nat.le_of_ble_eq_true rfl) (by first | with_reducible assumption) rfl (m_boxOf G _ b nc np pl h1 fs1 (hqf.to u2 u3 (by decide)) 0 (sz (O.getD o ([], 0)).2) (by decide) (yE _ ko1).1 ko3 (crR (crD mp X Y (O.getD o ([], 0)) 0) (sz (O.getD o ([], 0)).2)) (fun i hi => crR_b ko3 (ko4 _ (Nat.zero_le _)) i (by omega)) fsd d49 s1 gx gy d50 d51 (fun k hk9 => (s4 k (Nat.le_of_lt hk9)).1) (fun k hk9 => (s4 k (Nat.le_of_lt hk9)).2) u1) (fun v9 h2 z2 hq9 => ?_)
        obtain ⟨rfl, rfl, ⟨fs2, v1, v2, v3, f_bx0, f_by0, f_bx1, f_by1⟩, v4⟩ := hq9
        have A2 : fsE [52, 53, 54, 55, 56, 57] fs0 fs2 := hE.tr ((u3.up (by decide)).tr (v3.up (by decide)))
        have B2 : ∀ a, ¬ (b + 249 ≤ a ∧ a < b + 258) → a ≠ b + 220 → h2 a = hb a := fun a p1 p2 => (v4 a p2).trans ((u4 a p1 p2).trans (fr a p1 p2))
        have L2 : mld_ G h2 b 0 n0 pg0 cc0 := (L1.kp (fun a p1 p2 => v4 a (by omega))).z
        have hq2 := hq0.to (S := [52, 53, 54, 55, 56, 57]) v2 A2 (by decide)
        have hlen2 : fs2.length = 71 := v2
        have g_polygon := hq2.f_polygon
        have g_layerA := hq2.f_layerA
        have g_kind := hq2.f_kind
        have g_rule : fs2[58]? = some (.int (nI ri)) := (A2 58 (by decide)).trans h58
        have x244 : ab_I G h2 (b + 244) 100 fp := (B2 _ (by omega) (by omega)).trans o1
        have x234 : ab_I G h2 (b + 234) 40 j34 := (B2 _ (by omega) (by omega)).trans r34
        refine v_iload dX13_whole_42 0 rfl ?_
        refine v_if_ne (tgt := 54) dX13_whole_44 (by decide) (fun c_44 => ?_) (fun c_44 => ?_)
        · exact absurd (by rw [ez]; rfl) c_44
        · refine v_aload_n dX13_whole_47 rfl 8 rfl ?_
          refine v_getf 54 (ci := 11) (C := RX13) (T := TX13) (N := 71) rfl iwX13_whole_X13 (Nat.le_of_ble_eq_true rfl) (by decide +kernel) dX13_whole_48 (by first | with_reducible assumption) (by repeat (first | with_reducible assumption | (with_reducible refine (sv_ls (by first | omega | (simp only [List.length_set]; omega))).trans ?_; exact rfl) | with_reducible refine (List.getElem?_set_ne (by decide)).trans ?_)) ?_
          refine v_goto (tgt := 63) dX13_whole_51 (by decide) ?_
          refine v_lstore (L' := [(6, _), (14, _), (12, _), (10, _), (8, _), (4, _), (2, _), (1, _), (0, _)]) dX13_whole_63 (Nat.le_of_ble_eq_true rfl) rfl ?_
          refine v_iload dX13_whole_65 1 rfl ?_
          refine v_if_ne (tgt := 77) dX13_whole_67 (by decide) (fun c_67 => ?_) (fun c_67 => ?_)
          · exact absurd (by rw [ez]; rfl) c_67
          · refine v_aload_n dX13_whole_70 rfl 8 rfl ?_
            refine v_getf 55 (ci := 11) (C := RX13) (T := TX13) (N := 71) rfl iwX13_whole_X13 (Nat.le_of_ble_eq_true rfl) (by decide +kernel) dX13_whole_71 (by first | with_reducible assumption) (by repeat (first | with_reducible assumption | (with_reducible refine (sv_ls (by first | omega | (simp only [List.length_set]; omega))).trans ?_; exact rfl) | with_reducible refine (List.getElem?_set_ne (by decide)).trans ?_)) ?_
            refine v_goto (tgt := 86) dX13_whole_74 (by decide) ?_
            refine v_lstore (L' := [(8, _), (6, _), (14, _), (12, _), (10, _), (4, _), (2, _), (1, _), (0, _)]) dX13_whole_86 (Nat.le_of_ble_eq_true rfl) rfl ?_
            refine v_iload dX13_whole_88 2 rfl ?_
            refine v_if_ne (tgt := 100) dX13_whole_90 (by decide) (fun c_90 => ?_) (fun c_90 => ?_)
            · exact absurd (by rw [ez]; rfl) c_90
            · refine v_aload_n dX13_whole_93 rfl 8 rfl ?_
              refine v_getf 56 (ci := 11) (C := RX13) (T := TX13) (N := 71) rfl iwX13_whole_X13 (Nat.le_of_ble_eq_true rfl) (by decide +kernel) dX13_whole_94 (by first | with_reducible assumption) (by repeat (first | with_reducible assumption | (with_reducible refine (sv_ls (by first | omega | (simp only [List.length_set]; omega))).trans ?_; exact rfl) | with_reducible refine (List.getElem?_set_ne (by decide)).trans ?_)) ?_
              refine v_goto (tgt := 109) dX13_whole_97 (by decide) ?_
              refine v_lstore (L' := [(10, _), (8, _), (6, _), (14, _), (12, _), (4, _), (2, _), (1, _), (0, _)]) dX13_whole_109 (Nat.le_of_ble_eq_true rfl) rfl ?_
              refine v_iload dX13_whole_111 3 rfl ?_
              refine v_if_ne (tgt := 123) dX13_whole_113 (by decide) (fun c_113 => ?_) (fun c_113 => ?_)
              · exact absurd (by rw [ez]; rfl) c_113
              · refine v_aload_n dX13_whole_116 rfl 8 rfl ?_
                refine v_getf 57 (ci := 11) (C := RX13) (T := TX13) (N := 71) rfl iwX13_whole_X13 (Nat.le_of_ble_eq_true rfl) (by decide +kernel) dX13_whole_117 (by first | with_reducible assumption) (by repeat (first | with_reducible assumption | (with_reducible refine (sv_ls (by first | omega | (simp only [List.length_set]; omega))).trans ?_; exact rfl) | with_reducible refine (List.getElem?_set_ne (by decide)).trans ?_)) ?_
                refine v_goto (tgt := 132) dX13_whole_120 (by decide) ?_
                refine v_lstore (L' := [(12, _), (10, _), (8, _), (6, _), (14, _), (4, _), (2, _), (1, _), (0, _)]) dX13_whole_132 (Nat.le_of_ble_eq_true rfl) rfl ?_
                refine v_lload_n dX13_whole_134 rfl 6 rfl ?_
                refine v_aload_n dX13_whole_135 rfl 8 rfl ?_
                refine v_iload dX13_whole_136 4 rfl ?_
                refine v_aload_n dX13_whole_138 rfl 8 rfl ?_
                refine v_getf 20 (ci := 11) (C := RX13) (T := TX13) (N := 71) rfl iwX13_whole_X13 (Nat.le_of_ble_eq_true rfl) (by decide +kernel) dX13_whole_139 (by first | with_reducible assumption) (by repeat (first | with_reducible assumption | (with_reducible refine (sv_ls (by first | omega | (simp only [List.length_set]; omega))).trans ?_; exact rfl) | with_reducible refine (List.getElem?_set_ne (by decide)).trans ?_)) ?_
                refine v_aload_n dX13_whole_142 rfl 8 rfl ?_
                refine v_getf 58 (ci := 11) (C := RX13) (T := TX13) (N := 71) rfl iwX13_whole_X13 (Nat.le_of_ble_eq_true rfl) (by decide +kernel) dX13_whole_143 (by first | with_reducible assumption) (by repeat (first | with_reducible assumption | (with_reducible refine (sv_ls (by first | omega | (simp only [List.length_set]; omega))).trans ?_; exact rfl) | with_reducible refine (List.getElem?_set_ne (by decide)).trans ?_)) ?_
                refine v_ialdS (v := l1) dX13_whole_146 (by first | with_reducible assumption) (vp_in_nI (by omega) (by omega)) (by rw [nI_clamp (by omega)]; exact r34a) ?_
                refine v_callVq (M' := mX13_isOn) (n := 2) (As := [_, _]) (ci := 11) (r := (RX13, TX13, 71)) gX13_whole_X13_isOn rfl (by decide +kernel) ⟨(Nat.le_of_ble_eq_true rfl), (Nat.le_of_ble_eq_true rfl)⟩ rfl rfl dX13_whole_147 rfl ⟨(Nat.le_of_ble_eq_true rfl), (Nat.le_of_ble_eq_true rfl)⟩ (Nat.le_of_ble_eq_true rfl) (by first | with_reducible assumption) rfl (m_isOn G _ b nc np pl h2 fs2 hq2 v1 O (MO.kp (fun a p1 p2 => B2 a (by omega) (by omega))) o ho R hm p3 p4 sz ly vo mp X Y (MY.kp (fun a p1 p2 => B2 a (by omega) (by omega))) ko1 l1) (fun v9 h9 y9 hq => v_pq hq ?_)
                refine v_if_eq (tgt := 167) dX13_whole_150 (by decide) (fun c_150 => ?_) (fun c_150 => ?_)
                · refine v_lconst (v := 0) dX13_whole_167 (by decide) ?_
                  refine v_ladd dX13_whole_168 ?_
                  first | rw [← jN_add] | rw [Int64.add_zero]
                  refine v_lstore_n (L' := [(2, _), (12, _), (10, _), (8, _), (6, _), (14, _), (4, _), (1, _), (0, _)]) dX13_whole_169 rfl (Nat.le_of_ble_eq_true rfl) rfl ?_
                  refine v_lload dX13_whole_170 6 rfl ?_
                  refine v_aload_n dX13_whole_172 rfl 8 rfl ?_
                  refine v_iload dX13_whole_173 5 rfl ?_
                  refine v_aload_n dX13_whole_175 rfl 8 rfl ?_
                  refine v_getf 20 (ci := 11) (C := RX13) (T := TX13) (N := 71) rfl iwX13_whole_X13 (Nat.le_of_ble_eq_true rfl) (by decide +kernel) dX13_whole_176 (by first | with_reducible assumption) (by repeat (first | with_reducible assumption | (with_reducible refine (sv_ls (by first | omega | (simp only [List.length_set]; omega))).trans ?_; exact rfl) | with_reducible refine (List.getElem?_set_ne (by decide)).trans ?_)) ?_
                  refine v_aload_n dX13_whole_179 rfl 8 rfl ?_
                  refine v_getf 58 (ci := 11) (C := RX13) (T := TX13) (N := 71) rfl iwX13_whole_X13 (Nat.le_of_ble_eq_true rfl) (by decide +kernel) dX13_whole_180 (by first | with_reducible assumption) (by repeat (first | with_reducible assumption | (with_reducible refine (sv_ls (by first | omega | (simp only [List.length_set]; omega))).trans ?_; exact rfl) | with_reducible refine (List.getElem?_set_ne (by decide)).trans ?_)) ?_
                  refine v_ialdS (v := l1) dX13_whole_183 (by first | with_reducible assumption) (vp_in_nI (by omega) (by omega)) (by rw [nI_clamp (by omega)]; exact r34a) ?_
                  refine v_callVq (M' := mX13_isOn) (n := 2) (As := [_, _]) (ci := 11) (r := (RX13, TX13, 71)) gX13_whole_X13_isOn rfl (by decide +kernel) ⟨(Nat.le_of_ble_eq_true rfl), (Nat.le_of_ble_eq_true rfl)⟩ rfl rfl dX13_whole_184 rfl ⟨(Nat.le_of_ble_eq_true rfl), (Nat.le_of_ble_eq_true rfl)⟩ (Nat.le_of_ble_eq_true rfl) (by first | with_reducible assumption) rfl (m_isOn G _ b nc np pl h2 fs2 hq2 v1 O (MO.kp (fun a p1 p2 => B2 a (by omega) (by omega))) o ho R hm p3 p4 sz ly vo mp X Y (MY.kp (fun a p1 p2 => B2 a (by omega) (by omega))) ko1 l1) (fun v9 h9 y9 hq => v_pq hq ?_)
                  refine v_if_eq (tgt := 194) dX13_whole_187 (by decide) (fun c_187 => ?_) (fun c_187 => ?_)
                  · refine v_lconst (v := 0) dX13_whole_194 (by decide) ?_
                    refine v_ladd dX13_whole_195 ?_
                    first | rw [show ∀ x : Int, jN x + 1 = jN (x + 1) from fun x => (jN_add x 1).symm] | rw [Int64.add_zero]
                    refine v_lstore (L' := [(4, _), (2, _), (12, _), (10, _), (8, _), (6, _), (14, _), (1, _), (0, _)]) dX13_whole_196 (Nat.le_of_ble_eq_true rfl) rfl ?_
                    refine v_iinc (j := 6) (L' := [(14, _), (4, _), (2, _), (12, _), (10, _), (8, _), (6, _), (1, _), (0, _)]) (v := nI (o + 1)) dX13_whole_198 rfl (nI_1 _) (Nat.le_of_ble_eq_true rfl) rfl ?_
                    refine v_goto (tgt := 20) dX13_whole_201 (by decide) ?_
                    first
                      | exact absurd c_187 c_150
                      | exact absurd c_150 c_187
                      | (refine v_sub (L' := [(14, _), (12, _), (10, _), (8, _), (6, _), (4, _), (2, _), (1, _), (0, _)]) [0, 3, 4, 5, 6, 1, 2, 7, 8] rfl ?_
                         have hh := ih (o + 1) h2 fs2 (by omega) v1 v2 A2 B2 L2
                         rw [spW_z (j := 0) ez, spW_z (j := 1) ez, spW_z (j := 2) ez, spW_z (j := 3) ez] at hh
                         first
                           | (have c9 : ly (O.getD o ([], 0)).2 = l1 := Decidable.of_not_not (fun e9 => c_150 (if_neg e9))
                              rw [arW_p c9, cnW_p c9] at hh
                              exact hh)
                           | (have c9 : ¬ ly (O.getD o ([], 0)).2 = l1 := (fun e9 => by rw [if_pos e9] at c_150; exact absurd c_150 (by decide))
                              rw [arW_n c9, cnW_n c9] at hh
                              exact hh))
                  · refine v_lconst (v := 1) dX13_whole_190 (by decide) ?_
                    refine v_goto (tgt := 195) dX13_whole_191 (by decide) ?_
                    refine v_ladd dX13_whole_195 ?_
                    first | rw [show ∀ x : Int, jN x + 1 = jN (x + 1) from fun x => (jN_add x 1).symm] | rw [Int64.add_zero]
                    refine v_lstore (L' := [(4, _), (2, _), (12, _), (10, _), (8, _), (6, _), (14, _), (1, _), (0, _)]) dX13_whole_196 (Nat.le_of_ble_eq_true rfl) rfl ?_
                    refine v_iinc (j := 6) (L' := [(14, _), (4, _), (2, _), (12, _), (10, _), (8, _), (6, _), (1, _), (0, _)]) (v := nI (o + 1)) dX13_whole_198 rfl (nI_1 _) (Nat.le_of_ble_eq_true rfl) rfl ?_
                    refine v_goto (tgt := 20) dX13_whole_201 (by decide) ?_
                    first
                      | exact absurd c_187 c_150
                      | exact absurd c_150 c_187
                      | (refine v_sub (L' := [(14, _), (12, _), (10, _), (8, _), (6, _), (4, _), (2, _), (1, _), (0, _)]) [0, 3, 4, 5, 6, 1, 2, 7, 8] rfl ?_
                         have hh := ih (o + 1) h2 fs2 (by omega) v1 v2 A2 B2 L2
                         rw [spW_z (j := 0) ez, spW_z (j := 1) ez, spW_z (j := 2) ez, spW_z (j := 3) ez] at hh
                         first
                           | (have c9 : ly (O.getD o ([], 0)).2 = l1 := Decidable.of_not_not (fun e9 => c_150 (if_neg e9))
                              rw [arW_p c9, cnW_p c9] at hh
                              exact hh)
                           | (have c9 : ¬ ly (O.getD o ([], 0)).2 = l1 := (fun e9 => by rw [if_pos e9] at c_150; exact absurd c_150 (by decide))
                              rw [arW_n c9, cnW_n c9] at hh
                              exact hh))
                · refine v_aload_n dX13_whole_153 rfl 8 rfl ?_
                  refine v_aload_n dX13_whole_154 rfl 8 rfl ?_
                  refine v_getf 37 (ci := 11) (C := RX13) (T := TX13) (N := 71) rfl iwX13_whole_X13 (Nat.le_of_ble_eq_true rfl) (by decide +kernel) dX13_whole_155 (by first | with_reducible assumption) (by repeat (first | with_reducible assumption | (with_reducible refine (sv_ls (by first | omega | (simp only [List.length_set]; omega))).trans ?_; exact rfl) | with_reducible refine (List.getElem?_set_ne (by decide)).trans ?_)) ?_
                  refine v_iload dX13_whole_158 4 rfl ?_
                  refine v_ialdS (v := nI (O.getD o ([], 0)).2) dX13_whole_160 (by first | with_reducible assumption) (vp_in_nI (by omega) (by omega)) (by rw [nI_clamp (by omega)]; exact o6) ?_
                  refine v_callVq (M' := mX13_areaOf) (n := 1) (As := [_]) (ci := 11) (r := (RX13, TX13, 71)) gX13_whole_X13_areaOf rfl (by decide +kernel) ⟨(Nat.le_of_ble_eq_true rfl), (Nat.le_of_ble_eq_true rfl)⟩ rfl rfl dX13_whole_161 rfl ⟨(Nat.le_of_ble_eq_true rfl), (Nat.le_of_ble_eq_true rfl)⟩ (Nat.le_of_ble_eq_true rfl) (by first | with_reducible assumption) rfl (m_areaOf G _ b nc np pl R hm p3 p4 sz ly vo mp X Y hb fs0 hq0 MY h2 fs2 v1 v2 [52, 53, 54, 55, 56, 57] A2 (by decide) (fun a p1 p2 => B2 a (by omega) (by omega)) (O.getD o ([], 0)).2 ko1 ko3 hXY) (fun v9 h9 y9 hq => v_pq hq ?_)
                  refine v_goto (tgt := 168) dX13_whole_164 (by decide) ?_
                  refine v_ladd dX13_whole_168 ?_
                  first | rw [← jN_add] | rw [Int64.add_zero]
                  refine v_lstore_n (L' := [(2, _), (12, _), (10, _), (8, _), (6, _), (14, _), (4, _), (1, _), (0, _)]) dX13_whole_169 rfl (Nat.le_of_ble_eq_true rfl) rfl ?_
                  refine v_lload dX13_whole_170 6 rfl ?_
                  refine v_aload_n dX13_whole_172 rfl 8 rfl ?_
                  refine v_iload dX13_whole_173 5 rfl ?_
                  refine v_aload_n dX13_whole_175 rfl 8 rfl ?_
                  refine v_getf 20 (ci := 11) (C := RX13) (T := TX13) (N := 71) rfl iwX13_whole_X13 (Nat.le_of_ble_eq_true rfl) (by decide +kernel) dX13_whole_176 (by first | with_reducible assumption) (by repeat (first | with_reducible assumption | (with_reducible refine (sv_ls (by first | omega | (simp only [List.length_set]; omega))).trans ?_; exact rfl) | with_reducible refine (List.getElem?_set_ne (by decide)).trans ?_)) ?_
                  refine v_aload_n dX13_whole_179 rfl 8 rfl ?_
                  refine v_getf 58 (ci := 11) (C := RX13) (T := TX13) (N := 71) rfl iwX13_whole_X13 (Nat.le_of_ble_eq_true rfl) (by decide +kernel) dX13_whole_180 (by first | with_reducible assumption) (by repeat (first | with_reducible assumption | (with_reducible refine (sv_ls (by first | omega | (simp only [List.length_set]; omega))).trans ?_; exact rfl) | with_reducible refine (List.getElem?_set_ne (by decide)).trans ?_)) ?_
                  refine v_ialdS (v := l1) dX13_whole_183 (by first | with_reducible assumption) (vp_in_nI (by omega) (by omega)) (by rw [nI_clamp (by omega)]; exact r34a) ?_
                  refine v_callVq (M' := mX13_isOn) (n := 2) (As := [_, _]) (ci := 11) (r := (RX13, TX13, 71)) gX13_whole_X13_isOn rfl (by decide +kernel) ⟨(Nat.le_of_ble_eq_true rfl), (Nat.le_of_ble_eq_true rfl)⟩ rfl rfl dX13_whole_184 rfl ⟨(Nat.le_of_ble_eq_true rfl), (Nat.le_of_ble_eq_true rfl)⟩ (Nat.le_of_ble_eq_true rfl) (by first | with_reducible assumption) rfl (m_isOn G _ b nc np pl h2 fs2 hq2 v1 O (MO.kp (fun a p1 p2 => B2 a (by omega) (by omega))) o ho R hm p3 p4 sz ly vo mp X Y (MY.kp (fun a p1 p2 => B2 a (by omega) (by omega))) ko1 l1) (fun v9 h9 y9 hq => v_pq hq ?_)
                  refine v_if_eq (tgt := 194) dX13_whole_187 (by decide) (fun c_187 => ?_) (fun c_187 => ?_)
                  · refine v_lconst (v := 0) dX13_whole_194 (by decide) ?_
                    refine v_ladd dX13_whole_195 ?_
                    first | rw [show ∀ x : Int, jN x + 1 = jN (x + 1) from fun x => (jN_add x 1).symm] | rw [Int64.add_zero]
                    refine v_lstore (L' := [(4, _), (2, _), (12, _), (10, _), (8, _), (6, _), (14, _), (1, _), (0, _)]) dX13_whole_196 (Nat.le_of_ble_eq_true rfl) rfl ?_
                    refine v_iinc (j := 6) (L' := [(14, _), (4, _), (2, _), (12, _), (10, _), (8, _), (6, _), (1, _), (0, _)]) (v := nI (o + 1)) dX13_whole_198 rfl (nI_1 _) (Nat.le_of_ble_eq_true rfl) rfl ?_
                    refine v_goto (tgt := 20) dX13_whole_201 (by decide) ?_
                    first
                      | exact absurd c_187 c_150
                      | exact absurd c_150 c_187
                      | (refine v_sub (L' := [(14, _), (12, _), (10, _), (8, _), (6, _), (4, _), (2, _), (1, _), (0, _)]) [0, 3, 4, 5, 6, 1, 2, 7, 8] rfl ?_
                         have hh := ih (o + 1) h2 fs2 (by omega) v1 v2 A2 B2 L2
                         rw [spW_z (j := 0) ez, spW_z (j := 1) ez, spW_z (j := 2) ez, spW_z (j := 3) ez] at hh
                         first
                           | (have c9 : ly (O.getD o ([], 0)).2 = l1 := Decidable.of_not_not (fun e9 => c_150 (if_neg e9))
                              rw [arW_p c9, cnW_p c9] at hh
                              exact hh)
                           | (have c9 : ¬ ly (O.getD o ([], 0)).2 = l1 := (fun e9 => by rw [if_pos e9] at c_150; exact absurd c_150 (by decide))
                              rw [arW_n c9, cnW_n c9] at hh
                              exact hh))
                  · refine v_lconst (v := 1) dX13_whole_190 (by decide) ?_
                    refine v_goto (tgt := 195) dX13_whole_191 (by decide) ?_
                    refine v_ladd dX13_whole_195 ?_
                    first | rw [show ∀ x : Int, jN x + 1 = jN (x + 1) from fun x => (jN_add x 1).symm] | rw [Int64.add_zero]
                    refine v_lstore (L' := [(4, _), (2, _), (12, _), (10, _), (8, _), (6, _), (14, _), (1, _), (0, _)]) dX13_whole_196 (Nat.le_of_ble_eq_true rfl) rfl ?_
                    refine v_iinc (j := 6) (L' := [(14, _), (4, _), (2, _), (12, _), (10, _), (8, _), (6, _), (1, _), (0, _)]) (v := nI (o + 1)) dX13_whole_198 rfl (nI_1 _) (Nat.le_of_ble_eq_true rfl) rfl ?_
                    refine v_goto (tgt := 20) dX13_whole_201 (by decide) ?_
                    first
                      | exact absurd c_187 c_150
                      | exact absurd c_150 c_187
                      | (refine v_sub (L' := [(14, _), (12, _), (10, _), (8, _), (6, _), (4, _), (2, _), (1, _), (0, _)]) [0, 3, 4, 5, 6, 1, 2, 7, 8] rfl ?_
                         have hh := ih (o + 1) h2 fs2 (by omega) v1 v2 A2 B2 L2
                         rw [spW_z (j := 0) ez, spW_z (j := 1) ez, spW_z (j := 2) ez, spW_z (j := 3) ez] at hh
                         first
                           | (have c9 : ly (O.getD o ([], 0)).2 = l1 := Decidable.of_not_not (fun e9 => c_150 (if_neg e9))
                              rw [arW_p c9, cnW_p c9] at hh
                              exact hh)
                           | (have c9 : ¬ ly (O.getD o ([], 0)).2 = l1 := (fun e9 => by rw [if_pos e9] at c_150; exact absurd c_150 (by decide))
                              rw [arW_n c9, cnW_n c9] at hh
                              exact hh))
    · have hz9 : 0 < o := by omega
      refine v_iload dX13_whole_20 0 rfl ?_
      refine v_aload_n dX13_whole_22 rfl 8 rfl ?_
      refine v_getf 36 (ci := 11) (C := RX13) (T := TX13) (N := 71) rfl iwX13_whole_X13 (Nat.le_of_ble_eq_true rfl) (by decide +kernel) dX13_whole_23 (by first | with_reducible assumption) (by repeat (first | with_reducible assumption | (with_reducible refine (sv_ls (by first | omega | (simp only [List.length_set]; omega))).trans ?_; exact rfl) | with_reducible refine (List.getElem?_set_ne (by decide)).trans ?_)) ?_
      refine v_icmp_ge (tgt := 204) dX13_whole_26 (by decide) (fun c_26 => ?_) (fun c_26 => ?_)
      · exact absurd c_26 (nI_ge ho (by omega))
      · refine v_aload_n dX13_whole_29 rfl 8 rfl ?_
        refine v_iconst (v := 0) dX13_whole_30 (by decide) ?_
        refine v_iload dX13_whole_31 0 rfl ?_
        refine v_iconst (v := 0) dX13_whole_33 (by decide) ?_
        refine v_callVq (M' := mX13_load) (n := 3) (As := [_, _, _]) (ci := 11) (r := (RX13, TX13, 71)) gX13_whole_X13_load rfl (by decide +kernel) ⟨(Nat.le_of_ble_eq_true rfl), (Nat.le_of_ble_eq_true rfl)⟩ rfl rfl dX13_whole_34 rfl ⟨(Nat.le_of_ble_eq_true rfl), (Nat.le_of_ble_eq_true rfl)⟩ (Nat.le_of_ble_eq_true rfl) (by first | with_reducible assumption) rfl (m_loadL G _ b nc np pl R hm p3 p4 sz ly vo mp X Y h fs hqf (MY.kp (fun a p1 p2 => fr a (by omega) (by omega))) O (MO.kp (fun a p1 p2 => fr a (by omega) (by omega))) o ho ko1 ko2 0 (Nat.zero_le _) 0 (by decide) (fun _ => sz (O.getD o ([], 0)).2) (fun _ => (O.getD o ([], 0)).2) (fun _ => crR (crD mp X Y (O.getD o ([], 0)) 0) (sz (O.getD o ([], 0)).2)) L9.z (fun w hw => absurd hw (Nat.not_lt_zero w)) rfl rfl rfl hm9 ko3 (ko4 _ (Nat.zero_le _))) (fun v9 h1 z1 hq9 => ?_)
        obtain ⟨rfl, rfl, ⟨fs1, u1, u2, u3⟩, L1, u4⟩ := hq9
        obtain ⟨fsd, fo, ft, ff, gx, gy, gp, gl, gh, d49, d50, d51, d52, d53, d54, d55, d56, d57, dd⟩ := id L1
        obtain ⟨s1, s2, s3, s4, s5⟩ := dd 0 (by decide)
        refine v_aload_n dX13_whole_37 rfl 8 rfl ?_
        refine v_iconst (v := 0) dX13_whole_38 (by decide) ?_
        refine v_callVq (M' := mX13_boxOf) (n := 1) (As := [_]) (ci := 11) (r := (RX13, TX13, 71)) gX13_whole_X13_boxOf rfl (by decide +kernel) ⟨(Nat.le_of_ble_eq_true rfl), (Nat.le_of_ble_eq_true rfl)⟩ rfl rfl dX13_whole_39 rfl ⟨(Nat.le_of_ble_eq_true rfl), (Nat.le_of_ble_eq_true rfl)⟩ (Nat.le_of_ble_eq_true rfl) (by first | with_reducible assumption) rfl (m_boxOf G _ b nc np pl h1 fs1 (hqf.to u2 u3 (by decide)) 0 (sz (O.getD o ([], 0)).2) (by decide) (yE _ ko1).1 ko3 (crR (crD mp X Y (O.getD o ([], 0)) 0) (sz (O.getD o ([], 0)).2)) (fun i hi => crR_b ko3 (ko4 _ (Nat.zero_le _)) i (by omega)) fsd d49 s1 gx gy d50 d51 (fun k hk9 => (s4 k (Nat.le_of_lt hk9)).1) (fun k hk9 => (s4 k (Nat.le_of_lt hk9)).2) u1) (fun v9 h2 z2 hq9 => ?_)
        obtain ⟨rfl, rfl, ⟨fs2, v1, v2, v3, f_bx0, f_by0, f_bx1, f_by1⟩, v4⟩ := hq9
        have A2 : fsE [52, 53, 54, 55, 56, 57] fs0 fs2 := hE.tr ((u3.up (by decide)).tr (v3.up (by decide)))
        have B2 : ∀ a, ¬ (b + 249 ≤ a ∧ a < b + 258) → a ≠ b + 220 → h2 a = hb a := fun a p1 p2 => (v4 a p2).trans ((u4 a p1 p2).trans (fr a p1 p2))
        have L2 : mld_ G h2 b 0 n0 pg0 cc0 := (L1.kp (fun a p1 p2 => v4 a (by omega))).z
        have hq2 := hq0.to (S := [52, 53, 54, 55, 56, 57]) v2 A2 (by decide)
        have hlen2 : fs2.length = 71 := v2
        have g_polygon := hq2.f_polygon
        have g_layerA := hq2.f_layerA
        have g_kind := hq2.f_kind
        have g_rule : fs2[58]? = some (.int (nI ri)) := (A2 58 (by decide)).trans h58
        have x244 : ab_I G h2 (b + 244) 100 fp := (B2 _ (by omega) (by omega)).trans o1
        have x234 : ab_I G h2 (b + 234) 40 j34 := (B2 _ (by omega) (by omega)).trans r34
        refine v_iload dX13_whole_42 0 rfl ?_
        refine v_if_ne (tgt := 54) dX13_whole_44 (by decide) (fun c_44 => ?_) (fun c_44 => ?_)
        · refine v_lload dX13_whole_54 4 rfl ?_
          refine v_aload_n dX13_whole_56 rfl 8 rfl ?_
          refine v_getf 54 (ci := 11) (C := RX13) (T := TX13) (N := 71) rfl iwX13_whole_X13 (Nat.le_of_ble_eq_true rfl) (by decide +kernel) dX13_whole_57 (by first | with_reducible assumption) (by repeat (first | with_reducible assumption | (with_reducible refine (sv_ls (by first | omega | (simp only [List.length_set]; omega))).trans ?_; exact rfl) | with_reducible refine (List.getElem?_set_ne (by decide)).trans ?_)) ?_
          refine v_callSq (M' := mX13_least) (n := 2) (As := [_, _]) ggX13_whole_X13_least (by decide +kernel) (by decide +kernel) (by decide +kernel) rfl (by decide +kernel) ⟨(Nat.le_of_ble_eq_true rfl), (Nat.le_of_ble_eq_true rfl)⟩ dX13_whole_60 rfl ⟨(Nat.le_of_ble_eq_true rfl), (Nat.le_of_ble_eq_true rfl)⟩ (Nat.le_of_ble_eq_true rfl) rfl (m_leastW G _ _ (x := spn (bxW mp sz X Y O) o 0) (y := (bxW mp sz X Y O) o 0) (by have := so 0; omega) (by have := bo 0; omega)) (fun v9 h9 y9 hq => v_pq hq ?_)
          refine v_lstore (L' := [(6, _), (14, _), (12, _), (10, _), (8, _), (4, _), (2, _), (1, _), (0, _)]) dX13_whole_63 (Nat.le_of_ble_eq_true rfl) rfl ?_
          refine v_iload dX13_whole_65 1 rfl ?_
          refine v_if_ne (tgt := 77) dX13_whole_67 (by decide) (fun c_67 => ?_) (fun c_67 => ?_)
          · refine v_lload dX13_whole_77 4 rfl ?_
            refine v_aload_n dX13_whole_79 rfl 8 rfl ?_
            refine v_getf 55 (ci := 11) (C := RX13) (T := TX13) (N := 71) rfl iwX13_whole_X13 (Nat.le_of_ble_eq_true rfl) (by decide +kernel) dX13_whole_80 (by first | with_reducible assumption) (by repeat (first | with_reducible assumption | (with_reducible refine (sv_ls (by first | omega | (simp only [List.length_set]; omega))).trans ?_; exact rfl) | with_reducible refine (List.getElem?_set_ne (by decide)).trans ?_)) ?_
            refine v_callSq (M' := mX13_least) (n := 2) (As := [_, _]) ggX13_whole_X13_least (by decide +kernel) (by decide +kernel) (by decide +kernel) rfl (by decide +kernel) ⟨(Nat.le_of_ble_eq_true rfl), (Nat.le_of_ble_eq_true rfl)⟩ dX13_whole_83 rfl ⟨(Nat.le_of_ble_eq_true rfl), (Nat.le_of_ble_eq_true rfl)⟩ (Nat.le_of_ble_eq_true rfl) rfl (m_leastW G _ _ (x := spn (bxW mp sz X Y O) o 1) (y := (bxW mp sz X Y O) o 1) (by have := so 1; omega) (by have := bo 1; omega)) (fun v9 h9 y9 hq => v_pq hq ?_)
            refine v_lstore (L' := [(8, _), (6, _), (14, _), (12, _), (10, _), (4, _), (2, _), (1, _), (0, _)]) dX13_whole_86 (Nat.le_of_ble_eq_true rfl) rfl ?_
            refine v_iload dX13_whole_88 2 rfl ?_
            refine v_if_ne (tgt := 100) dX13_whole_90 (by decide) (fun c_90 => ?_) (fun c_90 => ?_)
            · refine v_lload dX13_whole_100 4 rfl ?_
              refine v_aload_n dX13_whole_102 rfl 8 rfl ?_
              refine v_getf 56 (ci := 11) (C := RX13) (T := TX13) (N := 71) rfl iwX13_whole_X13 (Nat.le_of_ble_eq_true rfl) (by decide +kernel) dX13_whole_103 (by first | with_reducible assumption) (by repeat (first | with_reducible assumption | (with_reducible refine (sv_ls (by first | omega | (simp only [List.length_set]; omega))).trans ?_; exact rfl) | with_reducible refine (List.getElem?_set_ne (by decide)).trans ?_)) ?_
              refine v_callSq (M' := mX13_most) (n := 2) (As := [_, _]) ggX13_whole_X13_most (by decide +kernel) (by decide +kernel) (by decide +kernel) rfl (by decide +kernel) ⟨(Nat.le_of_ble_eq_true rfl), (Nat.le_of_ble_eq_true rfl)⟩ dX13_whole_106 rfl ⟨(Nat.le_of_ble_eq_true rfl), (Nat.le_of_ble_eq_true rfl)⟩ (Nat.le_of_ble_eq_true rfl) rfl (m_mostW G _ _ (x := spn (bxW mp sz X Y O) o 2) (y := (bxW mp sz X Y O) o 2) (by have := so 2; omega) (by have := bo 2; omega)) (fun v9 h9 y9 hq => v_pq hq ?_)
              refine v_lstore (L' := [(10, _), (8, _), (6, _), (14, _), (12, _), (4, _), (2, _), (1, _), (0, _)]) dX13_whole_109 (Nat.le_of_ble_eq_true rfl) rfl ?_
              refine v_iload dX13_whole_111 3 rfl ?_
              refine v_if_ne (tgt := 123) dX13_whole_113 (by decide) (fun c_113 => ?_) (fun c_113 => ?_)
              · refine v_lload dX13_whole_123 4 rfl ?_
                refine v_aload_n dX13_whole_125 rfl 8 rfl ?_
                refine v_getf 57 (ci := 11) (C := RX13) (T := TX13) (N := 71) rfl iwX13_whole_X13 (Nat.le_of_ble_eq_true rfl) (by decide +kernel) dX13_whole_126 (by first | with_reducible assumption) (by repeat (first | with_reducible assumption | (with_reducible refine (sv_ls (by first | omega | (simp only [List.length_set]; omega))).trans ?_; exact rfl) | with_reducible refine (List.getElem?_set_ne (by decide)).trans ?_)) ?_
                refine v_callSq (M' := mX13_most) (n := 2) (As := [_, _]) ggX13_whole_X13_most (by decide +kernel) (by decide +kernel) (by decide +kernel) rfl (by decide +kernel) ⟨(Nat.le_of_ble_eq_true rfl), (Nat.le_of_ble_eq_true rfl)⟩ dX13_whole_129 rfl ⟨(Nat.le_of_ble_eq_true rfl), (Nat.le_of_ble_eq_true rfl)⟩ (Nat.le_of_ble_eq_true rfl) rfl (m_mostW G _ _ (x := spn (bxW mp sz X Y O) o 3) (y := (bxW mp sz X Y O) o 3) (by have := so 3; omega) (by have := bo 3; omega)) (fun v9 h9 y9 hq => v_pq hq ?_)
                refine v_lstore (L' := [(12, _), (10, _), (8, _), (6, _), (14, _), (4, _), (2, _), (1, _), (0, _)]) dX13_whole_132 (Nat.le_of_ble_eq_true rfl) rfl ?_
                refine v_lload_n dX13_whole_134 rfl 6 rfl ?_
                refine v_aload_n dX13_whole_135 rfl 8 rfl ?_
                refine v_iload dX13_whole_136 4 rfl ?_
                refine v_aload_n dX13_whole_138 rfl 8 rfl ?_
                refine v_getf 20 (ci := 11) (C := RX13) (T := TX13) (N := 71) rfl iwX13_whole_X13 (Nat.le_of_ble_eq_true rfl) (by decide +kernel) dX13_whole_139 (by first | with_reducible assumption) (by repeat (first | with_reducible assumption | (with_reducible refine (sv_ls (by first | omega | (simp only [List.length_set]; omega))).trans ?_; exact rfl) | with_reducible refine (List.getElem?_set_ne (by decide)).trans ?_)) ?_
                refine v_aload_n dX13_whole_142 rfl 8 rfl ?_
                refine v_getf 58 (ci := 11) (C := RX13) (T := TX13) (N := 71) rfl iwX13_whole_X13 (Nat.le_of_ble_eq_true rfl) (by decide +kernel) dX13_whole_143 (by first | with_reducible assumption) (by repeat (first | with_reducible assumption | (with_reducible refine (sv_ls (by first | omega | (simp only [List.length_set]; omega))).trans ?_; exact rfl) | with_reducible refine (List.getElem?_set_ne (by decide)).trans ?_)) ?_
                refine v_ialdS (v := l1) dX13_whole_146 (by first | with_reducible assumption) (vp_in_nI (by omega) (by omega)) (by rw [nI_clamp (by omega)]; exact r34a) ?_
                refine v_callVq (M' := mX13_isOn) (n := 2) (As := [_, _]) (ci := 11) (r := (RX13, TX13, 71)) gX13_whole_X13_isOn rfl (by decide +kernel) ⟨(Nat.le_of_ble_eq_true rfl), (Nat.le_of_ble_eq_true rfl)⟩ rfl rfl dX13_whole_147 rfl ⟨(Nat.le_of_ble_eq_true rfl), (Nat.le_of_ble_eq_true rfl)⟩ (Nat.le_of_ble_eq_true rfl) (by first | with_reducible assumption) rfl (m_isOn G _ b nc np pl h2 fs2 hq2 v1 O (MO.kp (fun a p1 p2 => B2 a (by omega) (by omega))) o ho R hm p3 p4 sz ly vo mp X Y (MY.kp (fun a p1 p2 => B2 a (by omega) (by omega))) ko1 l1) (fun v9 h9 y9 hq => v_pq hq ?_)
                refine v_if_eq (tgt := 167) dX13_whole_150 (by decide) (fun c_150 => ?_) (fun c_150 => ?_)
                · refine v_lconst (v := 0) dX13_whole_167 (by decide) ?_
                  refine v_ladd dX13_whole_168 ?_
                  first | rw [← jN_add] | rw [Int64.add_zero]
                  refine v_lstore_n (L' := [(2, _), (12, _), (10, _), (8, _), (6, _), (14, _), (4, _), (1, _), (0, _)]) dX13_whole_169 rfl (Nat.le_of_ble_eq_true rfl) rfl ?_
                  refine v_lload dX13_whole_170 6 rfl ?_
                  refine v_aload_n dX13_whole_172 rfl 8 rfl ?_
                  refine v_iload dX13_whole_173 5 rfl ?_
                  refine v_aload_n dX13_whole_175 rfl 8 rfl ?_
                  refine v_getf 20 (ci := 11) (C := RX13) (T := TX13) (N := 71) rfl iwX13_whole_X13 (Nat.le_of_ble_eq_true rfl) (by decide +kernel) dX13_whole_176 (by first | with_reducible assumption) (by repeat (first | with_reducible assumption | (with_reducible refine (sv_ls (by first | omega | (simp only [List.length_set]; omega))).trans ?_; exact rfl) | with_reducible refine (List.getElem?_set_ne (by decide)).trans ?_)) ?_
                  refine v_aload_n dX13_whole_179 rfl 8 rfl ?_
                  refine v_getf 58 (ci := 11) (C := RX13) (T := TX13) (N := 71) rfl iwX13_whole_X13 (Nat.le_of_ble_eq_true rfl) (by decide +kernel) dX13_whole_180 (by first | with_reducible assumption) (by repeat (first | with_reducible assumption | (with_reducible refine (sv_ls (by first | omega | (simp only [List.length_set]; omega))).trans ?_; exact rfl) | with_reducible refine (List.getElem?_set_ne (by decide)).trans ?_)) ?_
                  refine v_ialdS (v := l1) dX13_whole_183 (by first | with_reducible assumption) (vp_in_nI (by omega) (by omega)) (by rw [nI_clamp (by omega)]; exact r34a) ?_
                  refine v_callVq (M' := mX13_isOn) (n := 2) (As := [_, _]) (ci := 11) (r := (RX13, TX13, 71)) gX13_whole_X13_isOn rfl (by decide +kernel) ⟨(Nat.le_of_ble_eq_true rfl), (Nat.le_of_ble_eq_true rfl)⟩ rfl rfl dX13_whole_184 rfl ⟨(Nat.le_of_ble_eq_true rfl), (Nat.le_of_ble_eq_true rfl)⟩ (Nat.le_of_ble_eq_true rfl) (by first | with_reducible assumption) rfl (m_isOn G _ b nc np pl h2 fs2 hq2 v1 O (MO.kp (fun a p1 p2 => B2 a (by omega) (by omega))) o ho R hm p3 p4 sz ly vo mp X Y (MY.kp (fun a p1 p2 => B2 a (by omega) (by omega))) ko1 l1) (fun v9 h9 y9 hq => v_pq hq ?_)
                  refine v_if_eq (tgt := 194) dX13_whole_187 (by decide) (fun c_187 => ?_) (fun c_187 => ?_)
                  · refine v_lconst (v := 0) dX13_whole_194 (by decide) ?_
                    refine v_ladd dX13_whole_195 ?_
                    first | rw [show ∀ x : Int, jN x + 1 = jN (x + 1) from fun x => (jN_add x 1).symm] | rw [Int64.add_zero]
                    refine v_lstore (L' := [(4, _), (2, _), (12, _), (10, _), (8, _), (6, _), (14, _), (1, _), (0, _)]) dX13_whole_196 (Nat.le_of_ble_eq_true rfl) rfl ?_
                    refine v_iinc (j := 6) (L' := [(14, _), (4, _), (2, _), (12, _), (10, _), (8, _), (6, _), (1, _), (0, _)]) (v := nI (o + 1)) dX13_whole_198 rfl (nI_1 _) (Nat.le_of_ble_eq_true rfl) rfl ?_
                    refine v_goto (tgt := 20) dX13_whole_201 (by decide) ?_
                    first
                      | exact absurd c_187 c_150
                      | exact absurd c_150 c_187
                      | (refine v_sub (L' := [(14, _), (12, _), (10, _), (8, _), (6, _), (4, _), (2, _), (1, _), (0, _)]) [0, 3, 4, 5, 6, 1, 2, 7, 8] rfl ?_
                         have hh := ih (o + 1) h2 fs2 (by omega) v1 v2 A2 B2 L2
                         rw [spW_l (j := 0) hz9 (by decide), spW_l (j := 1) hz9 (by decide), spW_h (j := 2) hz9 (by decide), spW_h (j := 3) hz9 (by decide)] at hh
                         first
                           | (have c9 : ly (O.getD o ([], 0)).2 = l1 := Decidable.of_not_not (fun e9 => c_150 (if_neg e9))
                              rw [arW_p c9, cnW_p c9] at hh
                              exact hh)
                           | (have c9 : ¬ ly (O.getD o ([], 0)).2 = l1 := (fun e9 => by rw [if_pos e9] at c_150; exact absurd c_150 (by decide))
                              rw [arW_n c9, cnW_n c9] at hh
                              exact hh))
                  · refine v_lconst (v := 1) dX13_whole_190 (by decide) ?_
                    refine v_goto (tgt := 195) dX13_whole_191 (by decide) ?_
                    refine v_ladd dX13_whole_195 ?_
                    first | rw [show ∀ x : Int, jN x + 1 = jN (x + 1) from fun x => (jN_add x 1).symm] | rw [Int64.add_zero]
                    refine v_lstore (L' := [(4, _), (2, _), (12, _), (10, _), (8, _), (6, _), (14, _), (1, _), (0, _)]) dX13_whole_196 (Nat.le_of_ble_eq_true rfl) rfl ?_
                    refine v_iinc (j := 6) (L' := [(14, _), (4, _), (2, _), (12, _), (10, _), (8, _), (6, _), (1, _), (0, _)]) (v := nI (o + 1)) dX13_whole_198 rfl (nI_1 _) (Nat.le_of_ble_eq_true rfl) rfl ?_
                    refine v_goto (tgt := 20) dX13_whole_201 (by decide) ?_
                    first
                      | exact absurd c_187 c_150
                      | exact absurd c_150 c_187
                      | (refine v_sub (L' := [(14, _), (12, _), (10, _), (8, _), (6, _), (4, _), (2, _), (1, _), (0, _)]) [0, 3, 4, 5, 6, 1, 2, 7, 8] rfl ?_
                         have hh := ih (o + 1) h2 fs2 (by omega) v1 v2 A2 B2 L2
                         rw [spW_l (j := 0) hz9 (by decide), spW_l (j := 1) hz9 (by decide), spW_h (j := 2) hz9 (by decide), spW_h (j := 3) hz9 (by decide)] at hh
                         first
                           | (have c9 : ly (O.getD o ([], 0)).2 = l1 := Decidable.of_not_not (fun e9 => c_150 (if_neg e9))
                              rw [arW_p c9, cnW_p c9] at hh
                              exact hh)
                           | (have c9 : ¬ ly (O.getD o ([], 0)).2 = l1 := (fun e9 => by rw [if_pos e9] at c_150; exact absurd c_150 (by decide))
                              rw [arW_n c9, cnW_n c9] at hh
                              exact hh))
                · refine v_aload_n dX13_whole_153 rfl 8 rfl ?_
                  refine v_aload_n dX13_whole_154 rfl 8 rfl ?_
                  refine v_getf 37 (ci := 11) (C := RX13) (T := TX13) (N := 71) rfl iwX13_whole_X13 (Nat.le_of_ble_eq_true rfl) (by decide +kernel) dX13_whole_155 (by first | with_reducible assumption) (by repeat (first | with_reducible assumption | (with_reducible refine (sv_ls (by first | omega | (simp only [List.length_set]; omega))).trans ?_; exact rfl) | with_reducible refine (List.getElem?_set_ne (by decide)).trans ?_)) ?_
                  refine v_iload dX13_whole_158 4 rfl ?_
                  refine v_ialdS (v := nI (O.getD o ([], 0)).2) dX13_whole_160 (by first | with_reducible assumption) (vp_in_nI (by omega) (by omega)) (by rw [nI_clamp (by omega)]; exact o6) ?_
                  refine v_callVq (M' := mX13_areaOf) (n := 1) (As := [_]) (ci := 11) (r := (RX13, TX13, 71)) gX13_whole_X13_areaOf rfl (by decide +kernel) ⟨(Nat.le_of_ble_eq_true rfl), (Nat.le_of_ble_eq_true rfl)⟩ rfl rfl dX13_whole_161 rfl ⟨(Nat.le_of_ble_eq_true rfl), (Nat.le_of_ble_eq_true rfl)⟩ (Nat.le_of_ble_eq_true rfl) (by first | with_reducible assumption) rfl (m_areaOf G _ b nc np pl R hm p3 p4 sz ly vo mp X Y hb fs0 hq0 MY h2 fs2 v1 v2 [52, 53, 54, 55, 56, 57] A2 (by decide) (fun a p1 p2 => B2 a (by omega) (by omega)) (O.getD o ([], 0)).2 ko1 ko3 hXY) (fun v9 h9 y9 hq => v_pq hq ?_)
                  refine v_goto (tgt := 168) dX13_whole_164 (by decide) ?_
                  refine v_ladd dX13_whole_168 ?_
                  first | rw [← jN_add] | rw [Int64.add_zero]
                  refine v_lstore_n (L' := [(2, _), (12, _), (10, _), (8, _), (6, _), (14, _), (4, _), (1, _), (0, _)]) dX13_whole_169 rfl (Nat.le_of_ble_eq_true rfl) rfl ?_
                  refine v_lload dX13_whole_170 6 rfl ?_
                  refine v_aload_n dX13_whole_172 rfl 8 rfl ?_
                  refine v_iload dX13_whole_173 5 rfl ?_
                  refine v_aload_n dX13_whole_175 rfl 8 rfl ?_
                  refine v_getf 20 (ci := 11) (C := RX13) (T := TX13) (N := 71) rfl iwX13_whole_X13 (Nat.le_of_ble_eq_true rfl) (by decide +kernel) dX13_whole_176 (by first | with_reducible assumption) (by repeat (first | with_reducible assumption | (with_reducible refine (sv_ls (by first | omega | (simp only [List.length_set]; omega))).trans ?_; exact rfl) | with_reducible refine (List.getElem?_set_ne (by decide)).trans ?_)) ?_
                  refine v_aload_n dX13_whole_179 rfl 8 rfl ?_
                  refine v_getf 58 (ci := 11) (C := RX13) (T := TX13) (N := 71) rfl iwX13_whole_X13 (Nat.le_of_ble_eq_true rfl) (by decide +kernel) dX13_whole_180 (by first | with_reducible assumption) (by repeat (first | with_reducible assumption | (with_reducible refine (sv_ls (by first | omega | (simp only [List.length_set]; omega))).trans ?_; exact rfl) | with_reducible refine (List.getElem?_set_ne (by decide)).trans ?_)) ?_
                  refine v_ialdS (v := l1) dX13_whole_183 (by first | with_reducible assumption) (vp_in_nI (by omega) (by omega)) (by rw [nI_clamp (by omega)]; exact r34a) ?_
                  refine v_callVq (M' := mX13_isOn) (n := 2) (As := [_, _]) (ci := 11) (r := (RX13, TX13, 71)) gX13_whole_X13_isOn rfl (by decide +kernel) ⟨(Nat.le_of_ble_eq_true rfl), (Nat.le_of_ble_eq_true rfl)⟩ rfl rfl dX13_whole_184 rfl ⟨(Nat.le_of_ble_eq_true rfl), (Nat.le_of_ble_eq_true rfl)⟩ (Nat.le_of_ble_eq_true rfl) (by first | with_reducible assumption) rfl (m_isOn G _ b nc np pl h2 fs2 hq2 v1 O (MO.kp (fun a p1 p2 => B2 a (by omega) (by omega))) o ho R hm p3 p4 sz ly vo mp X Y (MY.kp (fun a p1 p2 => B2 a (by omega) (by omega))) ko1 l1) (fun v9 h9 y9 hq => v_pq hq ?_)
                  refine v_if_eq (tgt := 194) dX13_whole_187 (by decide) (fun c_187 => ?_) (fun c_187 => ?_)
                  · refine v_lconst (v := 0) dX13_whole_194 (by decide) ?_
                    refine v_ladd dX13_whole_195 ?_
                    first | rw [show ∀ x : Int, jN x + 1 = jN (x + 1) from fun x => (jN_add x 1).symm] | rw [Int64.add_zero]
                    refine v_lstore (L' := [(4, _), (2, _), (12, _), (10, _), (8, _), (6, _), (14, _), (1, _), (0, _)]) dX13_whole_196 (Nat.le_of_ble_eq_true rfl) rfl ?_
                    refine v_iinc (j := 6) (L' := [(14, _), (4, _), (2, _), (12, _), (10, _), (8, _), (6, _), (1, _), (0, _)]) (v := nI (o + 1)) dX13_whole_198 rfl (nI_1 _) (Nat.le_of_ble_eq_true rfl) rfl ?_
                    refine v_goto (tgt := 20) dX13_whole_201 (by decide) ?_
                    first
                      | exact absurd c_187 c_150
                      | exact absurd c_150 c_187
                      | (refine v_sub (L' := [(14, _), (12, _), (10, _), (8, _), (6, _), (4, _), (2, _), (1, _), (0, _)]) [0, 3, 4, 5, 6, 1, 2, 7, 8] rfl ?_
                         have hh := ih (o + 1) h2 fs2 (by omega) v1 v2 A2 B2 L2
                         rw [spW_l (j := 0) hz9 (by decide), spW_l (j := 1) hz9 (by decide), spW_h (j := 2) hz9 (by decide), spW_h (j := 3) hz9 (by decide)] at hh
                         first
                           | (have c9 : ly (O.getD o ([], 0)).2 = l1 := Decidable.of_not_not (fun e9 => c_150 (if_neg e9))
                              rw [arW_p c9, cnW_p c9] at hh
                              exact hh)
                           | (have c9 : ¬ ly (O.getD o ([], 0)).2 = l1 := (fun e9 => by rw [if_pos e9] at c_150; exact absurd c_150 (by decide))
                              rw [arW_n c9, cnW_n c9] at hh
                              exact hh))
                  · refine v_lconst (v := 1) dX13_whole_190 (by decide) ?_
                    refine v_goto (tgt := 195) dX13_whole_191 (by decide) ?_
                    refine v_ladd dX13_whole_195 ?_
                    first | rw [show ∀ x : Int, jN x + 1 = jN (x + 1) from fun x => (jN_add x 1).symm] | rw [Int64.add_zero]
                    refine v_lstore (L' := [(4, _), (2, _), (12, _), (10, _), (8, _), (6, _), (14, _), (1, _), (0, _)]) dX13_whole_196 (Nat.le_of_ble_eq_true rfl) rfl ?_
                    refine v_iinc (j := 6) (L' := [(14, _), (4, _), (2, _), (12, _), (10, _), (8, _), (6, _), (1, _), (0, _)]) (v := nI (o + 1)) dX13_whole_198 rfl (nI_1 _) (Nat.le_of_ble_eq_true rfl) rfl ?_
                    refine v_goto (tgt := 20) dX13_whole_201 (by decide) ?_
                    first
                      | exact absurd c_187 c_150
                      | exact absurd c_150 c_187
                      | (refine v_sub (L' := [(14, _), (12, _), (10, _), (8, _), (6, _), (4, _), (2, _), (1, _), (0, _)]) [0, 3, 4, 5, 6, 1, 2, 7, 8] rfl ?_
                         have hh := ih (o + 1) h2 fs2 (by omega) v1 v2 A2 B2 L2
                         rw [spW_l (j := 0) hz9 (by decide), spW_l (j := 1) hz9 (by decide), spW_h (j := 2) hz9 (by decide), spW_h (j := 3) hz9 (by decide)] at hh
                         first
                           | (have c9 : ly (O.getD o ([], 0)).2 = l1 := Decidable.of_not_not (fun e9 => c_150 (if_neg e9))
                              rw [arW_p c9, cnW_p c9] at hh
                              exact hh)
                           | (have c9 : ¬ ly (O.getD o ([], 0)).2 = l1 := (fun e9 => by rw [if_pos e9] at c_150; exact absurd c_150 (by decide))
                              rw [arW_n c9, cnW_n c9] at hh
                              exact hh))
              · exact absurd (nI_i (c := 0) (by omega) (by omega) c_113) (by omega)
            · exact absurd (nI_i (c := 0) (by omega) (by omega) c_90) (by omega)
          · exact absurd (nI_i (c := 0) (by omega) (by omega) c_67) (by omega)
        · exact absurd (nI_i (c := 0) (by omega) (by omega) c_44) (by omega)

theorem m_tellM0 (G : sv_G) (z b nc np pl : Nat) (R : Nat → Bool) (hm p3 p4 sz : Nat → Nat) (ly vo : Nat → Int32) (mp : Nat → mvT) (X Y : Nat → Nat → Int) (hb : sv_h) (fs0 : List Value) (hq0 : mfq_ b nc np pl fs0) (MY : myl_ G hb b nc np pl R hm p3 p4 sz ly vo mp X Y) (mo : Value) (fw : Nat → Int32) (o3 : ab_I G hb (b + 246) 1616 fw) (h60 : fs0[60]? = some mo) (h61 : fs0[61]? = some (.int (nI 0))) (hm0 : hb (b + 220) = some (.inr (11, fs0))) (gt : Nat → Int64) (h41 : ab_J G hb (b + 241) 36048 gt) (mc : Nat) (hmc : mc < 100) (h62 : fs0[62]? = some (.int (nI mc))) (h28 : fs0[28]? = some (.int (nI 0))) (x0 y0 x1 y1 m : Int) (b0 : -1000000000 ≤ x0 ∧ x0 ≤ 1000000000) (b1 : -1000000000 ≤ y0 ∧ y0 ≤ 1000000000) (b2 : -1000000000 ≤ x1 ∧ x1 ≤ 1000000000) (b3 : -1000000000 ≤ y1 ∧ y1 ≤ 1000000000) (mL : Int64) (em : mL = jN m) : CT G mX13_tell [.ref (b + 220), .long (jN x0), .long (jN y0), .long (jN x1), .long (jN y1), .int (-1), .int (-1), .long mL] hb z (fun v h1 z1 => v = none ∧ z1 = z ∧ (∃ fs1, h1 (b + 220) = some (.inr (11, fs1)) ∧ fs1.length = 71 ∧ fsE [28, 52, 53] fs0 fs1 ∧ fs1[28]? = some (.int (nI (0 + 1)))) ∧ (∃ gt1, ab_J G h1 (b + 241) 36048 gt1 ∧ (∀ j, j < 12 → gt1 (12 * 0 + j) = (mvR mvI (rwI x0 y0 x1 y1 (-1) (-1) m (mc : Int))).getD j 0) ∧ ∀ a, ¬ (12 * 0 ≤ a ∧ a < 12 * 0 + 12) → gt1 a = gt a) ∧ ∀ a, a ≠ b + 220 → a ≠ b + 241 → h1 a = hb a) := by
  subst em
  exact m_tellW G z b nc np pl R hm p3 p4 sz ly vo mp X Y hb fs0 hq0 MY [] (fun i hi => absurd hi (List.not_mem_nil)) 0 (Nat.le_refl 0) (by decide) mo 0 fw o3 (fun h => absurd h (by decide)) h60 h61 hm0 gt h41 mc hmc h62 0 (by decide) h28 x0 y0 x1 y1 (-1) (-1) m (by omega) (by omega) b0 b1 b2 b3 (by rw [show mvW mp (([] : List Nat).take 0) = mvI from rfl, mvI_A]; exact b0) (by rw [show mvW mp (([] : List Nat).take 0) = mvI from rfl, mvI_A]; exact b1) (by rw [show mvW mp (([] : List Nat).take 0) = mvI from rfl, mvI_A]; exact b2) (by rw [show mvW mp (([] : List Nat).take 0) = mvI from rfl, mvI_A]; exact b3)
set_option maxHeartbeats 4000000 in
set_option maxRecDepth 100000 in
theorem t_wh253 (G : sv_G) (Qr : Option Value → sv_h → Nat → Prop) (z b nc np pl : Nat) (R : Nat → Bool) (hm p3 p4 sz : Nat → Nat) (ly vo : Nat → Int32) (mp : Nat → mvT) (X Y : Nat → Nat → Int) (hb : sv_h) (fs0 : List Value) (hq0 : mfq_ b nc np pl fs0) (MY : myl_ G hb b nc np pl R hm p3 p4 sz ly vo mp X Y) (O : List (List Nat × Nat)) (MO : moc_ G hb b O) (OK : mok_ np pl sz mp X Y O) (ri kd : Nat) (l1 l2 x3 x4 x5 x6 : Int32) (RU : mru_ G hb b ri kd l1 l2 x3 x4 x5 x6) (h58 : fs0[58]? = some (.int (nI ri))) (hen : x6 = -1 ∨ 0 ≤ x6) (n0 pg0 : Nat → Nat) (cc0 : Nat → Nat → Int × Int) (LD : mld_ G hb b 0 n0 pg0 cc0) (top : Nat) (htop : top < nc) (h36 : fs0[36]? = some (.int (nI O.length))) (mo : Value) (h60 : fs0[60]? = some mo) (gt : Nat → Int64) (t41 : ab_J G hb (b + 241) 36048 gt) (t28 : fs0[28]? = some (.int (nI 0))) (t29 : fs0[29]? = some (.int 0)) (hgu : ∀ a, 18000 ≤ a → gt a = gu a) (hk : ∀ (h1 : sv_h) (fs1 : List Value), h1 (b + 220) = some (.inr (11, fs1)) → fs1.length = 71 → fsE [28, 52, 53, 54, 55, 56, 57, 61, 62] fs0 fs1 → (∀ a, ¬ (b + 249 ≤ a ∧ a < b + 258) → a ≠ b + 220 → a ≠ b + 241 → h1 a = hb a) → mld_ G h1 b 0 n0 pg0 cc0 → mT_ gu G h1 b fs1 (whQ kd x3 top O.length (arW (fun p => arM (crR (fun k => (X p k, Y p k)) (sz p)) (sz p)) ly l1 O O.length) (cnS ly l1 O O.length) (spn (bxW mp sz X Y O) O.length)) → Qr none h1 z) (h : sv_h) (fs : List Value) (hm9 : h (b + 220) = some (.inr (11, fs))) (hl : fs.length = 71) (hE : fsE [52, 53, 54, 55, 56, 57] fs0 fs) (fr : (∀ a, ¬ (b + 249 ≤ a ∧ a < b + 258) → a ≠ b + 220 → h a = hb a)) (L9 : mld_ G h b 0 n0 pg0 cc0) : V G mX13_whole (sv_MQ G mX13_whole Qr) 253 [(14, .long (mwW kd O.length (arW (fun p => arM (crR (fun k => (X p k, Y p k)) (sz p)) (sz p)) ly l1 O O.length) (cnS ly l1 O O.length) (spn (bxW mp sz X Y O) O.length))), (12, .long (jN ((spn (bxW mp sz X Y O) O.length) 3))), (10, .long (jN ((spn (bxW mp sz X Y O) O.length) 2))), (8, .long (jN ((spn (bxW mp sz X Y O) O.length) 1))), (6, .long (jN ((spn (bxW mp sz X Y O) O.length) 0))), (4, .long (jN (((cnS ly l1 O O.length) : Nat) : Int))), (2, .long (jN (arW (fun p => arM (crR (fun k => (X p k, Y p k)) (sz p)) (sz p)) ly l1 O O.length))), (1, .int (nI top)), (0, .ref (b + 220))] [] h z 0 0 := by
  have hqf := hq0.to (S := [52, 53, 54, 55, 56, 57]) hl hE (by decide)
  have hlen : fs.length = 71 := hl
  obtain ⟨fp, fd, fw, o1, o2, o3, o4, o5⟩ := id MO
  obtain ⟨_, _, _, _, _, _, _, _, _, _, _, yB, yC, yD, yE, yF⟩ := id MY
  obtain ⟨r0, r1, ⟨j33, r33, r33a⟩, ⟨j34, r34, r34a⟩, _, ⟨j36, r36, r36a⟩, _, _, _⟩ := id RU
  have f_occurrences : fs[36]? = some (.int (nI O.length)) := (hE 36 (by decide)).trans h36
  have f_rule : fs[58]? = some (.int (nI ri)) := (hE 58 (by decide)).trans h58
  have f_polygon := hqf.f_polygon
  have f_layerA := hqf.f_layerA
  have f_kind := hqf.f_kind
  have f_bound := hqf.f_bound
  have w244 : ab_I G h (b + 244) 100 fp := (fr _ (by omega) (by omega)).trans o1
  have w233 : ab_I G h (b + 233) 40 j33 := (fr _ (by omega) (by omega)).trans r33
  have w234 : ab_I G h (b + 234) 40 j34 := (fr _ (by omega) (by omega)).trans r34
  have w236 : ab_J G h (b + 236) 40 j36 := (fr _ (by omega) (by omega)).trans r36
  have hBb : ∀ i j, i < O.length → -200000 ≤ (bxW mp sz X Y O) i j ∧ (bxW mp sz X Y O) i j ≤ 200000 := fun i j hi => (by
    obtain ⟨q1, q2, q3, q4, _⟩ := OK _ (getD_mem ([], 0) hi)
    exact bxk_b (crR_b q3 (q4 0 (Nat.zero_le _))) (by omega) j)
  have sb := fun j => spW_b hBb O.length j (Nat.le_refl _)
  have X3a := x3.le_toInt
  have X3b := x3.toInt_lt
  refine v_aload_n dX13_whole_253 rfl 8 rfl ?_
  refine v_iconst (v := 0) dX13_whole_254 (by decide) ?_
  refine v_putf 61 (fs' := _) (ci := 11) (C := RX13) (T := TX13) (N := 71) (ty := .int) rfl iwX13_whole_X13 tyX13 tyX13_ok nmX13 (Nat.le_of_ble_eq_true rfl) (by decide +kernel) rfl rfl dX13_whole_255 rfl rfl (by repeat (first | with_reducible assumption | (with_reducible refine sv_us.trans ?_; exact rfl) | with_reducible refine (sv_un (by omega)).trans ?_)) (by first | omega | (simp only [List.length_set]; omega)) rfl ?_
  refine v_aload_n dX13_whole_258 rfl 8 rfl ?_
  refine v_iload_n dX13_whole_259 rfl 7 rfl ?_
  refine v_putf 62 (fs' := _) (ci := 11) (C := RX13) (T := TX13) (N := 71) (ty := .int) rfl iwX13_whole_X13 tyX13 tyX13_ok nmX13 (Nat.le_of_ble_eq_true rfl) (by decide +kernel) rfl rfl dX13_whole_260 rfl rfl (by repeat (first | with_reducible assumption | (with_reducible refine sv_us.trans ?_; exact rfl) | with_reducible refine (sv_un (by omega)).trans ?_)) (by first | omega | (simp only [List.length_set]; omega)) rfl ?_
  refine v_lload dX13_whole_263 0 rfl ?_
  refine v_aload_n dX13_whole_265 rfl 8 rfl ?_
  refine v_getf 22 (ci := 11) (C := RX13) (T := TX13) (N := 71) rfl iwX13_whole_X13 (Nat.le_of_ble_eq_true rfl) (by decide +kernel) dX13_whole_266 (by repeat (first | with_reducible assumption | (with_reducible refine sv_us.trans ?_; exact rfl) | with_reducible refine (sv_un (by omega)).trans ?_)) (by repeat (first | with_reducible assumption | (with_reducible refine (sv_ls (by first | omega | (simp only [List.length_set]; omega))).trans ?_; exact rfl) | with_reducible refine (List.getElem?_set_ne (by decide)).trans ?_)) ?_
  refine v_aload_n dX13_whole_269 rfl 8 rfl ?_
  refine v_getf 58 (ci := 11) (C := RX13) (T := TX13) (N := 71) rfl iwX13_whole_X13 (Nat.le_of_ble_eq_true rfl) (by decide +kernel) dX13_whole_270 (by repeat (first | with_reducible assumption | (with_reducible refine sv_us.trans ?_; exact rfl) | with_reducible refine (sv_un (by omega)).trans ?_)) (by repeat (first | with_reducible assumption | (with_reducible refine (sv_ls (by first | omega | (simp only [List.length_set]; omega))).trans ?_; exact rfl) | with_reducible refine (List.getElem?_set_ne (by decide)).trans ?_)) ?_
  refine v_laldS (v := jN x3.toInt) dX13_whole_273 (by repeat (first | with_reducible assumption | (with_reducible refine sv_us.trans ?_; exact rfl) | with_reducible refine (sv_un (by omega)).trans ?_)) (vp_in_nI (by omega) (by omega)) (by rw [nI_clamp (by omega)]; exact r36a) ?_
  refine v_lcmp_ge (tgt := 294) dX13_whole_274 dX13_whole_275 (by decide) (fun c_275 => ?_) (fun c_275 => ?_)
  · exact v_ret rfl dX13_whole_294 (Nat.le_of_ble_eq_true rfl) (Nat.le_of_ble_eq_true rfl) (by
          first
            | (have c9 : (mwW kd O.length (arW (fun p => arM (crR (fun k => (X p k, Y p k)) (sz p)) (sz p)) ly l1 O O.length) (cnS ly l1 O O.length) (spn (bxW mp sz X Y O) O.length)).toInt < x3.toInt := (by
                 have q9 := Int64.not_le.mp c_275
                 rw [Int64.lt_iff_toInt_lt, jN_to (by omega) (by omega)] at q9
                 exact q9)
               refine hk _ _ u1 u2 (((hE.up (by decide)).st (by decide)).st (by decide) |>.tr (u3.up (by decide))) (fun a p1 p2 p3_ => (u4 a p2 p3_).trans ((sv_un p2).trans ((sv_un p2).trans (fr a p1 p2)))) (L9.kp (fun a p1 p2 => (u4 a (by omega) (by omega)).trans ((sv_un (by omega)).trans (sv_un (by omega))))) ?_
               rw [show whQ kd x3 top O.length (arW (fun p => arM (crR (fun k => (X p k, Y p k)) (sz p)) (sz p)) ly l1 O O.length) (cnS ly l1 O O.length) (spn (bxW mp sz X Y O) O.length) = [_] from if_pos c9]
               refine ⟨u5, (u3 29 (by decide)).trans ((List.getElem?_set_ne (by decide)).trans ((List.getElem?_set_ne (by decide)).trans ((hE 29 (by decide)).trans t29))), gt1, g1, fun _ k9 hk9 j hj => ?_, fun a9 p9 => (g3 a9 (by omega)).trans (hgu a9 p9)⟩
               have e9 : k9 = 0 := (by have : k9 < 1 := hk9; omega)
               subst e9
               exact g2 j hj)
            | (have c9 : ¬ (mwW kd O.length (arW (fun p => arM (crR (fun k => (X p k, Y p k)) (sz p)) (sz p)) ly l1 O O.length) (cnS ly l1 O O.length) (spn (bxW mp sz X Y O) O.length)).toInt < x3.toInt := (by
                 have q9 := c_275
                 rw [Int64.le_iff_toInt_le, jN_to (by omega) (by omega)] at q9
                 omega)
               refine hk _ _ sv_us (by rw [List.length_set, List.length_set]; exact hl) (((hE.up (by decide)).st (by decide)).st (by decide)) (fun a p1 p2 p3_ => (sv_un p2).trans ((sv_un p2).trans (fr a p1 p2))) (L9.kp (fun a p1 p2 => (sv_un (by omega)).trans (sv_un (by omega)))) ?_
               rw [show whQ kd x3 top O.length (arW (fun p => arM (crR (fun k => (X p k, Y p k)) (sz p)) (sz p)) ly l1 O O.length) (cnS ly l1 O O.length) (spn (bxW mp sz X Y O) O.length) = [] from if_neg c9]
               exact ⟨(List.getElem?_set_ne (by decide)).trans ((List.getElem?_set_ne (by decide)).trans ((hE 28 (by decide)).trans t28)), (List.getElem?_set_ne (by decide)).trans ((List.getElem?_set_ne (by decide)).trans ((hE 29 (by decide)).trans t29)), gt, ((sv_un (by omega)).trans (sv_un (by omega))).trans ((fr _ (by omega) (by omega)).trans t41), fun _ k9 hk9 => absurd hk9 (Nat.not_lt_zero k9), hgu⟩))
  · refine v_aload_n dX13_whole_278 rfl 8 rfl ?_
    refine v_lload dX13_whole_279 4 rfl ?_
    refine v_lload dX13_whole_281 3 rfl ?_
    refine v_lload dX13_whole_283 2 rfl ?_
    refine v_lload dX13_whole_285 1 rfl ?_
    refine v_iconst (v := (-1)) dX13_whole_287 (by decide) ?_
    refine v_iconst (v := (-1)) dX13_whole_288 (by decide) ?_
    refine v_lload dX13_whole_289 0 rfl ?_
    refine v_callVq (M' := mX13_tell) (n := 7) (As := [_, _, _, _, _, _, _]) (ci := 11) (r := (RX13, TX13, 71)) gX13_whole_X13_tell rfl (by decide +kernel) ⟨(Nat.le_of_ble_eq_true rfl), (Nat.le_of_ble_eq_true rfl)⟩ rfl rfl dX13_whole_291 rfl ⟨(Nat.le_of_ble_eq_true rfl), (Nat.le_of_ble_eq_true rfl)⟩ (Nat.le_of_ble_eq_true rfl) (by repeat (first | with_reducible assumption | (with_reducible refine sv_us.trans ?_; exact rfl) | with_reducible refine (sv_un (by omega)).trans ?_)) rfl (m_tellM0 G _ b nc np pl R hm p3 p4 sz ly vo mp X Y _ ((fs.set 61 (.int (nI 0))).set 62 (.int (nI top))) (hq0.to (S := [28, 52, 53, 54, 55, 56, 57, 61, 62]) (by rw [List.length_set, List.length_set]; exact hl) ((((hE.up (by decide)).st (by decide)).st (by decide))) (by decide)) (MY.kp (fun a p1 p2 => ((sv_un (by omega)).trans (sv_un (by omega))).trans (fr a (by omega) (by omega)))) mo fw (((sv_un (by omega)).trans (sv_un (by omega))).trans ((fr _ (by omega) (by omega)).trans o3)) ((List.getElem?_set_ne (by decide)).trans ((List.getElem?_set_ne (by decide)).trans ((hE 60 (by decide)).trans h60))) ((List.getElem?_set_ne (by decide)).trans (sv_ls (by omega))) sv_us gt (((sv_un (by omega)).trans (sv_un (by omega))).trans ((fr _ (by omega) (by omega)).trans t41)) top (by omega) (sv_ls (by rw [List.length_set]; omega)) ((List.getElem?_set_ne (by decide)).trans ((List.getElem?_set_ne (by decide)).trans ((hE 28 (by decide)).trans t28))) ((spn (bxW mp sz X Y O) O.length) 0) ((spn (bxW mp sz X Y O) O.length) 1) ((spn (bxW mp sz X Y O) O.length) 2) ((spn (bxW mp sz X Y O) O.length) 3) (mwW kd O.length (arW (fun p => arM (crR (fun k => (X p k, Y p k)) (sz p)) (sz p)) ly l1 O O.length) (cnS ly l1 O O.length) (spn (bxW mp sz X Y O) O.length)).toInt (by have := sb 0; omega) (by have := sb 1; omega) (by have := sb 2; omega) (by have := sb 3; omega) (mwW kd O.length (arW (fun p => arM (crR (fun k => (X p k, Y p k)) (sz p)) (sz p)) ly l1 O O.length) (cnS ly l1 O O.length) (spn (bxW mp sz X Y O) O.length)) (jN_of _).symm) (fun v9 h1 z1 hq9 => ?_)
    obtain ⟨rfl, rfl, ⟨fs1, u1, u2, u3, u5⟩, ⟨gt1, g1, g2, g3⟩, u4⟩ := hq9
    exact v_ret rfl dX13_whole_294 (Nat.le_of_ble_eq_true rfl) (Nat.le_of_ble_eq_true rfl) (by
          first
            | (have c9 : (mwW kd O.length (arW (fun p => arM (crR (fun k => (X p k, Y p k)) (sz p)) (sz p)) ly l1 O O.length) (cnS ly l1 O O.length) (spn (bxW mp sz X Y O) O.length)).toInt < x3.toInt := (by
                 have q9 := Int64.not_le.mp c_275
                 rw [Int64.lt_iff_toInt_lt, jN_to (by omega) (by omega)] at q9
                 exact q9)
               refine hk _ _ u1 u2 (((hE.up (by decide)).st (by decide)).st (by decide) |>.tr (u3.up (by decide))) (fun a p1 p2 p3_ => (u4 a p2 p3_).trans ((sv_un p2).trans ((sv_un p2).trans (fr a p1 p2)))) (L9.kp (fun a p1 p2 => (u4 a (by omega) (by omega)).trans ((sv_un (by omega)).trans (sv_un (by omega))))) ?_
               rw [show whQ kd x3 top O.length (arW (fun p => arM (crR (fun k => (X p k, Y p k)) (sz p)) (sz p)) ly l1 O O.length) (cnS ly l1 O O.length) (spn (bxW mp sz X Y O) O.length) = [_] from if_pos c9]
               refine ⟨u5, (u3 29 (by decide)).trans ((List.getElem?_set_ne (by decide)).trans ((List.getElem?_set_ne (by decide)).trans ((hE 29 (by decide)).trans t29))), gt1, g1, fun _ k9 hk9 j hj => ?_, fun a9 p9 => (g3 a9 (by omega)).trans (hgu a9 p9)⟩
               have e9 : k9 = 0 := (by have : k9 < 1 := hk9; omega)
               subst e9
               exact g2 j hj)
            | (have c9 : ¬ (mwW kd O.length (arW (fun p => arM (crR (fun k => (X p k, Y p k)) (sz p)) (sz p)) ly l1 O O.length) (cnS ly l1 O O.length) (spn (bxW mp sz X Y O) O.length)).toInt < x3.toInt := (by
                 have q9 := c_275
                 rw [Int64.le_iff_toInt_le, jN_to (by omega) (by omega)] at q9
                 omega)
               refine hk _ _ sv_us (by rw [List.length_set, List.length_set]; exact hl) (((hE.up (by decide)).st (by decide)).st (by decide)) (fun a p1 p2 p3_ => (sv_un p2).trans ((sv_un p2).trans (fr a p1 p2))) (L9.kp (fun a p1 p2 => (sv_un (by omega)).trans (sv_un (by omega)))) ?_
               rw [show whQ kd x3 top O.length (arW (fun p => arM (crR (fun k => (X p k, Y p k)) (sz p)) (sz p)) ly l1 O O.length) (cnS ly l1 O O.length) (spn (bxW mp sz X Y O) O.length) = [] from if_neg c9]
               exact ⟨(List.getElem?_set_ne (by decide)).trans ((List.getElem?_set_ne (by decide)).trans ((hE 28 (by decide)).trans t28)), (List.getElem?_set_ne (by decide)).trans ((List.getElem?_set_ne (by decide)).trans ((hE 29 (by decide)).trans t29)), gt, ((sv_un (by omega)).trans (sv_un (by omega))).trans ((fr _ (by omega) (by omega)).trans t41), fun _ k9 hk9 => absurd hk9 (Nat.not_lt_zero k9), hgu⟩))

set_option maxHeartbeats 4000000 in
set_option maxRecDepth 100000 in
theorem t_wh204 (G : sv_G) (Qr : Option Value → sv_h → Nat → Prop) (z b nc np pl : Nat) (R : Nat → Bool) (hm p3 p4 sz : Nat → Nat) (ly vo : Nat → Int32) (mp : Nat → mvT) (X Y : Nat → Nat → Int) (hb : sv_h) (fs0 : List Value) (hq0 : mfq_ b nc np pl fs0) (MY : myl_ G hb b nc np pl R hm p3 p4 sz ly vo mp X Y) (O : List (List Nat × Nat)) (MO : moc_ G hb b O) (OK : mok_ np pl sz mp X Y O) (ri kd : Nat) (l1 l2 x3 x4 x5 x6 : Int32) (RU : mru_ G hb b ri kd l1 l2 x3 x4 x5 x6) (h58 : fs0[58]? = some (.int (nI ri))) (hen : x6 = -1 ∨ 0 ≤ x6) (n0 pg0 : Nat → Nat) (cc0 : Nat → Nat → Int × Int) (LD : mld_ G hb b 0 n0 pg0 cc0) (top : Nat) (htop : top < nc) (h36 : fs0[36]? = some (.int (nI O.length))) (hbw : ∀ i, i < O.length → (bxW mp sz X Y O) i 0 < (bxW mp sz X Y O) i 2 ∧ (bxW mp sz X Y O) i 1 < (bxW mp sz X Y O) i 3) (mo : Value) (h60 : fs0[60]? = some mo) (gt : Nat → Int64) (t41 : ab_J G hb (b + 241) 36048 gt) (t28 : fs0[28]? = some (.int (nI 0))) (t29 : fs0[29]? = some (.int 0)) (hgu : ∀ a, 18000 ≤ a → gt a = gu a) (hk : ∀ (h1 : sv_h) (fs1 : List Value), h1 (b + 220) = some (.inr (11, fs1)) → fs1.length = 71 → fsE [28, 52, 53, 54, 55, 56, 57, 61, 62] fs0 fs1 → (∀ a, ¬ (b + 249 ≤ a ∧ a < b + 258) → a ≠ b + 220 → a ≠ b + 241 → h1 a = hb a) → mld_ G h1 b 0 n0 pg0 cc0 → mT_ gu G h1 b fs1 (whQ kd x3 top O.length (arW (fun p => arM (crR (fun k => (X p k, Y p k)) (sz p)) (sz p)) ly l1 O O.length) (cnS ly l1 O O.length) (spn (bxW mp sz X Y O) O.length)) → Qr none h1 z) (h : sv_h) (fs : List Value) (hm9 : h (b + 220) = some (.inr (11, fs))) (hl : fs.length = 71) (hE : fsE [52, 53, 54, 55, 56, 57] fs0 fs) (fr : (∀ a, ¬ (b + 249 ≤ a ∧ a < b + 258) → a ≠ b + 220 → h a = hb a)) (L9 : mld_ G h b 0 n0 pg0 cc0) : V G mX13_whole (sv_MQ G mX13_whole Qr) 204 [(12, .long (jN (spn (bxW mp sz X Y O) O.length 3))), (10, .long (jN (spn (bxW mp sz X Y O) O.length 2))), (8, .long (jN (spn (bxW mp sz X Y O) O.length 1))), (6, .long (jN (spn (bxW mp sz X Y O) O.length 0))), (4, .long (jN ((cnS ly l1 O O.length : Nat) : Int))), (2, .long (jN (arW (fun p => arM (crR (fun k => (X p k, Y p k)) (sz p)) (sz p)) ly l1 O O.length))), (1, .int (nI top)), (0, .ref (b + 220))] [] h z 0 0 := by
  have hqf := hq0.to (S := [52, 53, 54, 55, 56, 57]) hl hE (by decide)
  have hlen : fs.length = 71 := hl
  obtain ⟨fp, fd, fw, o1, o2, o3, o4, o5⟩ := id MO
  obtain ⟨_, _, _, _, _, _, _, _, _, _, _, yB, yC, yD, yE, yF⟩ := id MY
  obtain ⟨r0, r1, ⟨j33, r33, r33a⟩, ⟨j34, r34, r34a⟩, _, ⟨j36, r36, r36a⟩, _, _, _⟩ := id RU
  have f_occurrences : fs[36]? = some (.int (nI O.length)) := (hE 36 (by decide)).trans h36
  have f_rule : fs[58]? = some (.int (nI ri)) := (hE 58 (by decide)).trans h58
  have f_polygon := hqf.f_polygon
  have f_layerA := hqf.f_layerA
  have f_kind := hqf.f_kind
  have f_bound := hqf.f_bound
  have w244 : ab_I G h (b + 244) 100 fp := (fr _ (by omega) (by omega)).trans o1
  have w233 : ab_I G h (b + 233) 40 j33 := (fr _ (by omega) (by omega)).trans r33
  have w234 : ab_I G h (b + 234) 40 j34 := (fr _ (by omega) (by omega)).trans r34
  have w236 : ab_J G h (b + 236) 40 j36 := (fr _ (by omega) (by omega)).trans r36
  have hBb : ∀ i j, i < O.length → -200000 ≤ (bxW mp sz X Y O) i j ∧ (bxW mp sz X Y O) i j ≤ 200000 := fun i j hi => (by
    obtain ⟨q1, q2, q3, q4, _⟩ := OK _ (getD_mem ([], 0) hi)
    exact bxk_b (crR_b q3 (q4 0 (Nat.zero_le _))) (by omega) j)
  have sb := fun j => spW_b hBb O.length j (Nat.le_refl _)
  refine v_aload_n dX13_whole_204 rfl 7 rfl ?_
  refine v_getf 19 (ci := 11) (C := RX13) (T := TX13) (N := 71) rfl iwX13_whole_X13 (Nat.le_of_ble_eq_true rfl) (by decide +kernel) dX13_whole_205 (by first | with_reducible assumption) (by repeat (first | with_reducible assumption | (with_reducible refine (sv_ls (by first | omega | (simp only [List.length_set]; omega))).trans ?_; exact rfl) | with_reducible refine (List.getElem?_set_ne (by decide)).trans ?_)) ?_
  refine v_aload_n dX13_whole_208 rfl 7 rfl ?_
  refine v_getf 58 (ci := 11) (C := RX13) (T := TX13) (N := 71) rfl iwX13_whole_X13 (Nat.le_of_ble_eq_true rfl) (by decide +kernel) dX13_whole_209 (by first | with_reducible assumption) (by repeat (first | with_reducible assumption | (with_reducible refine (sv_ls (by first | omega | (simp only [List.length_set]; omega))).trans ?_; exact rfl) | with_reducible refine (List.getElem?_set_ne (by decide)).trans ?_)) ?_
  refine v_ialdS (v := nI kd) dX13_whole_212 (by first | with_reducible assumption) (vp_in_nI (by omega) (by omega)) (by rw [nI_clamp (by omega)]; exact r33a) ?_
  refine v_bipush (v := 6) dX13_whole_213 (by decide) ?_
  refine v_icmp_ne (tgt := 223) dX13_whole_215 (by decide) (fun c_215 => ?_) (fun c_215 => ?_)
  · refine v_aload_n dX13_whole_223 rfl 7 rfl ?_
    refine v_getf 36 (ci := 11) (C := RX13) (T := TX13) (N := 71) rfl iwX13_whole_X13 (Nat.le_of_ble_eq_true rfl) (by decide +kernel) dX13_whole_224 (by first | with_reducible assumption) (by repeat (first | with_reducible assumption | (with_reducible refine (sv_ls (by first | omega | (simp only [List.length_set]; omega))).trans ?_; exact rfl) | with_reducible refine (List.getElem?_set_ne (by decide)).trans ?_)) ?_
    refine v_if_ne (tgt := 234) dX13_whole_227 (by decide) (fun c_227 => ?_) (fun c_227 => ?_)
    · have hN0 : 0 < O.length := Nat.pos_of_ne_zero (fun e9 => c_227 (by rw [e9]; rfl))
      have sw := spW_w hbw O.length (Nat.le_refl _) hN0
      have hnz : jN (((spn (bxW mp sz X Y O) O.length) 2 - (spn (bxW mp sz X Y O) O.length) 0) * ((spn (bxW mp sz X Y O) O.length) 3 - (spn (bxW mp sz X Y O) O.length) 1)) ≠ 0 := jn_nz (by have := sb 0; have := sb 2; omega) (by have := sb 1; have := sb 3; omega)
      refine v_lload_n dX13_whole_234 rfl 5 rfl ?_
      refine v_ldc2 (v := (100)) (by decide +kernel) dX13_whole_235 ?_
      refine v_lmul dX13_whole_238 ?_
      refine v_lload dX13_whole_239 1 rfl ?_
      refine v_lload dX13_whole_241 3 rfl ?_
      refine v_lsub dX13_whole_243 ?_
      refine v_lload dX13_whole_244 0 rfl ?_
      refine v_lload dX13_whole_246 2 rfl ?_
      refine v_lsub dX13_whole_248 ?_
      rw [← jN_sub, ← jN_sub]
      refine v_lmul dX13_whole_249 ?_
      rw [← jN_mul]
      refine v_ldiv dX13_whole_250 hnz ?_
      refine v_lstore (L' := [(14, _), (12, _), (10, _), (8, _), (6, _), (4, _), (2, _), (1, _), (0, _)]) dX13_whole_251 (Nat.le_of_ble_eq_true rfl) rfl ?_
      refine v_sub (L' := [(14, _), (12, _), (10, _), (8, _), (6, _), (4, _), (2, _), (1, _), (0, _)]) [0, 1, 2, 3, 4, 5, 6, 7, 8] rfl ?_
      have hh := t_wh253 G Qr z b nc np pl R hm p3 p4 sz ly vo mp X Y hb fs0 hq0 MY O MO OK ri kd l1 l2 x3 x4 x5 x6 RU h58 hen n0 pg0 cc0 LD top htop h36 mo h60 gt t41 t28 t29 hgu hk h fs hm9 hl hE fr L9
      first
        | (have k6 := nI_11 kd r1 6 (by decide) c_215
           rw [show (mwW kd O.length (arW (fun p => arM (crR (fun k => (X p k, Y p k)) (sz p)) (sz p)) ly l1 O O.length) (cnS ly l1 O O.length) (spn (bxW mp sz X Y O) O.length)) = _ from if_pos k6] at hh
           exact hh)
        | (have k6 : ¬ kd = 6 := fun e9 => c_215 (congrArg nI e9)
           have n9 : O.length = 0 := nI_i (c := 0) (by omega) (by omega) c_227
           rw [show (mwW kd O.length (arW (fun p => arM (crR (fun k => (X p k, Y p k)) (sz p)) (sz p)) ly l1 O O.length) (cnS ly l1 O O.length) (spn (bxW mp sz X Y O) O.length)) = _ from (if_neg k6).trans (if_pos n9)] at hh
           exact hh)
        | (have k6 : ¬ kd = 6 := fun e9 => c_215 (congrArg nI e9)
           rw [show (mwW kd O.length (arW (fun p => arM (crR (fun k => (X p k, Y p k)) (sz p)) (sz p)) ly l1 O O.length) (cnS ly l1 O O.length) (spn (bxW mp sz X Y O) O.length)) = _ from (if_neg k6).trans (if_neg (by omega))] at hh
           exact hh)
    · refine v_lconst (v := 0) dX13_whole_230 (by decide) ?_
      refine v_goto (tgt := 251) dX13_whole_231 (by decide) ?_
      refine v_lstore (L' := [(14, _), (12, _), (10, _), (8, _), (6, _), (4, _), (2, _), (1, _), (0, _)]) dX13_whole_251 (Nat.le_of_ble_eq_true rfl) rfl ?_
      refine v_sub (L' := [(14, _), (12, _), (10, _), (8, _), (6, _), (4, _), (2, _), (1, _), (0, _)]) [0, 1, 2, 3, 4, 5, 6, 7, 8] rfl ?_
      have hh := t_wh253 G Qr z b nc np pl R hm p3 p4 sz ly vo mp X Y hb fs0 hq0 MY O MO OK ri kd l1 l2 x3 x4 x5 x6 RU h58 hen n0 pg0 cc0 LD top htop h36 mo h60 gt t41 t28 t29 hgu hk h fs hm9 hl hE fr L9
      first
        | (have k6 := nI_11 kd r1 6 (by decide) c_215
           rw [show (mwW kd O.length (arW (fun p => arM (crR (fun k => (X p k, Y p k)) (sz p)) (sz p)) ly l1 O O.length) (cnS ly l1 O O.length) (spn (bxW mp sz X Y O) O.length)) = _ from if_pos k6] at hh
           exact hh)
        | (have k6 : ¬ kd = 6 := fun e9 => c_215 (congrArg nI e9)
           have n9 : O.length = 0 := nI_i (c := 0) (by omega) (by omega) c_227
           rw [show (mwW kd O.length (arW (fun p => arM (crR (fun k => (X p k, Y p k)) (sz p)) (sz p)) ly l1 O O.length) (cnS ly l1 O O.length) (spn (bxW mp sz X Y O) O.length)) = _ from (if_neg k6).trans (if_pos n9)] at hh
           exact hh)
        | (have k6 : ¬ kd = 6 := fun e9 => c_215 (congrArg nI e9)
           rw [show (mwW kd O.length (arW (fun p => arM (crR (fun k => (X p k, Y p k)) (sz p)) (sz p)) ly l1 O O.length) (cnS ly l1 O O.length) (spn (bxW mp sz X Y O) O.length)) = _ from (if_neg k6).trans (if_neg (by omega))] at hh
           exact hh)
  · refine v_lload dX13_whole_218 4 rfl ?_
    refine v_goto (tgt := 251) dX13_whole_220 (by decide) ?_
    refine v_lstore (L' := [(14, _), (12, _), (10, _), (8, _), (6, _), (4, _), (2, _), (1, _), (0, _)]) dX13_whole_251 (Nat.le_of_ble_eq_true rfl) rfl ?_
    refine v_sub (L' := [(14, _), (12, _), (10, _), (8, _), (6, _), (4, _), (2, _), (1, _), (0, _)]) [0, 1, 2, 3, 4, 5, 6, 7, 8] rfl ?_
    have hh := t_wh253 G Qr z b nc np pl R hm p3 p4 sz ly vo mp X Y hb fs0 hq0 MY O MO OK ri kd l1 l2 x3 x4 x5 x6 RU h58 hen n0 pg0 cc0 LD top htop h36 mo h60 gt t41 t28 t29 hgu hk h fs hm9 hl hE fr L9
    first
      | (have k6 := nI_11 kd r1 6 (by decide) c_215
         rw [show (mwW kd O.length (arW (fun p => arM (crR (fun k => (X p k, Y p k)) (sz p)) (sz p)) ly l1 O O.length) (cnS ly l1 O O.length) (spn (bxW mp sz X Y O) O.length)) = _ from if_pos k6] at hh
         exact hh)
      | (have k6 : ¬ kd = 6 := fun e9 => c_215 (congrArg nI e9)
         have n9 : O.length = 0 := nI_i (c := 0) (by omega) (by omega) c_227
         rw [show (mwW kd O.length (arW (fun p => arM (crR (fun k => (X p k, Y p k)) (sz p)) (sz p)) ly l1 O O.length) (cnS ly l1 O O.length) (spn (bxW mp sz X Y O) O.length)) = _ from (if_neg k6).trans (if_pos n9)] at hh
         exact hh)
      | (have k6 : ¬ kd = 6 := fun e9 => c_215 (congrArg nI e9)
         rw [show (mwW kd O.length (arW (fun p => arM (crR (fun k => (X p k, Y p k)) (sz p)) (sz p)) ly l1 O O.length) (cnS ly l1 O O.length) (spn (bxW mp sz X Y O) O.length)) = _ from (if_neg k6).trans (if_neg (by omega))] at hh
         exact hh)

set_option maxHeartbeats 4000000 in
set_option maxRecDepth 100000 in
theorem m_whole (G : sv_G) (z b nc np pl : Nat) (R : Nat → Bool) (hm p3 p4 sz : Nat → Nat) (ly vo : Nat → Int32) (mp : Nat → mvT) (X Y : Nat → Nat → Int) (hb : sv_h) (fs0 : List Value) (hq0 : mfq_ b nc np pl fs0) (MY : myl_ G hb b nc np pl R hm p3 p4 sz ly vo mp X Y) (O : List (List Nat × Nat)) (MO : moc_ G hb b O) (OK : mok_ np pl sz mp X Y O) (ri kd : Nat) (l1 l2 x3 x4 x5 x6 : Int32) (RU : mru_ G hb b ri kd l1 l2 x3 x4 x5 x6) (h58 : fs0[58]? = some (.int (nI ri))) (hen : x6 = -1 ∨ 0 ≤ x6) (n0 pg0 : Nat → Nat) (cc0 : Nat → Nat → Int × Int) (LD : mld_ G hb b 0 n0 pg0 cc0) (top : Nat) (htop : top < nc) (h36 : fs0[36]? = some (.int (nI O.length))) (hbw : ∀ i, i < O.length → (bxW mp sz X Y O) i 0 < (bxW mp sz X Y O) i 2 ∧ (bxW mp sz X Y O) i 1 < (bxW mp sz X Y O) i 3) (mo : Value) (h60 : fs0[60]? = some mo) (gt : Nat → Int64) (t41 : ab_J G hb (b + 241) 36048 gt) (t28 : fs0[28]? = some (.int (nI 0))) (t29 : fs0[29]? = some (.int 0)) (hgu : ∀ a, 18000 ≤ a → gt a = gu a) (hm9 : hb (b + 220) = some (.inr (11, fs0))) : CT G mX13_whole [.ref (b + 220), .int (nI top)] hb z (fun v9 h1 z1 => v9 = none ∧ z1 = z ∧ ∃ fs1, h1 (b + 220) = some (.inr (11, fs1)) ∧ fs1.length = 71 ∧ fsE [28, 52, 53, 54, 55, 56, 57, 61, 62] fs0 fs1 ∧ (∀ a, ¬ (b + 249 ≤ a ∧ a < b + 258) → a ≠ b + 220 → a ≠ b + 241 → h1 a = hb a) ∧ mld_ G h1 b 0 n0 pg0 cc0 ∧ mT_ gu G h1 b fs1 (whQ kd x3 top O.length (arW (fun p => arM (crR (fun k => (X p k, Y p k)) (sz p)) (sz p)) ly l1 O O.length) (cnS ly l1 O O.length) (spn (bxW mp sz X Y O) O.length))) := by
  refine CT.of (by decide +kernel) rfl rfl (Nat.le_of_ble_eq_true rfl) ?_
  refine v_lconst (v := 0) dX13_whole_0 (by decide) ?_
  refine v_lstore_n (L' := [(2, _), (0, _), (1, _)]) dX13_whole_1 rfl (Nat.le_of_ble_eq_true rfl) rfl ?_
  refine v_lconst (v := 0) dX13_whole_2 (by decide) ?_
  refine v_lstore (L' := [(4, _), (2, _), (0, _), (1, _)]) dX13_whole_3 (Nat.le_of_ble_eq_true rfl) rfl ?_
  refine v_lconst (v := 0) dX13_whole_5 (by decide) ?_
  refine v_lstore (L' := [(6, _), (4, _), (2, _), (0, _), (1, _)]) dX13_whole_6 (Nat.le_of_ble_eq_true rfl) rfl ?_
  refine v_lconst (v := 0) dX13_whole_8 (by decide) ?_
  refine v_lstore (L' := [(8, _), (6, _), (4, _), (2, _), (0, _), (1, _)]) dX13_whole_9 (Nat.le_of_ble_eq_true rfl) rfl ?_
  refine v_lconst (v := 0) dX13_whole_11 (by decide) ?_
  refine v_lstore (L' := [(10, _), (8, _), (6, _), (4, _), (2, _), (0, _), (1, _)]) dX13_whole_12 (Nat.le_of_ble_eq_true rfl) rfl ?_
  refine v_lconst (v := 0) dX13_whole_14 (by decide) ?_
  refine v_lstore (L' := [(12, _), (10, _), (8, _), (6, _), (4, _), (2, _), (0, _), (1, _)]) dX13_whole_15 (Nat.le_of_ble_eq_true rfl) rfl ?_
  refine v_iconst (v := 0) dX13_whole_17 (by decide) ?_
  refine v_istore (L' := [(14, _), (12, _), (10, _), (8, _), (6, _), (4, _), (2, _), (0, _), (1, _)]) dX13_whole_18 (Nat.le_of_ble_eq_true rfl) rfl ?_
  refine v_sub (L' := [(14, _), (12, _), (10, _), (8, _), (6, _), (4, _), (2, _), (1, _), (0, _)]) [0, 1, 2, 3, 4, 5, 6, 8, 7] rfl ?_
  exact l_wh G _ _ b nc np pl R hm p3 p4 sz ly vo mp X Y hb fs0 hq0 MY O MO OK ri kd l1 l2 x3 x4 x5 x6 RU h58 hen n0 pg0 cc0 LD top htop h36 (fun h2 fs2 v1 v2 v3 v4 v5 => t_wh204 G _ _ b nc np pl R hm p3 p4 sz ly vo mp X Y hb fs0 hq0 MY O MO OK ri kd l1 l2 x3 x4 x5 x6 RU h58 hen n0 pg0 cc0 LD top htop h36 hbw mo h60 gt t41 t28 t29 hgu (fun h1 fs1 q1 q2 q3 q4 q5 q6 => ⟨rfl, rfl, fs1, q1, q2, q3, q4, q5, q6⟩) h2 fs2 v1 v2 v3 v4 v5) O.length 0 hb fs0 (Nat.zero_add _) hm9 hq0.1 fsE.rf (fun _ _ _ => rfl) LD

end GU
