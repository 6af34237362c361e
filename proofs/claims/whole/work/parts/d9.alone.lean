section GU
variable {gu : Nat → Int64}
theorem iwX13_alone_X13 : ∀ w ∈ wsX130, w ∈ wsX13_alone := by decide +kernel
set_option maxRecDepth 20000 in
theorem ggX13_alone_X13_boxOf : GoodIn wsX13_alone wsX13_boxOf := goodIn_r _ [18, 19, 5, 20, 6, 7, 8, 9, 21, 22, 17, 23, 24, 25, 26, 77, 78, 79, 80, 81, 82, 83, 84, 85, 86, 87, 88, 89, 90, 91, 92, 93, 94, 95, 96, 97, 98, 99, 100, 101, 102, 103, 104, 105, 106, 107, 108, 109, 110, 111, 112, 113, 114, 115, 116, 117, 118, 119, 120, 121, 122, 123, 124, 125, 126, 127, 128, 129, 130, 131, 132, 133, 134, 135, 136, 137, 138, 139, 140, 141, 142, 143, 144, 145, 146, 147] (by decide +kernel) (by decide +kernel)
set_option maxRecDepth 20000 in
theorem gX13_alone_X13_boxOf : GoodIn wsX13_alone (wsV RX13 248 RX13 yX13_boxOf wsX13_boxOf) := goodIn_app (goodIn_of _ (by decide +kernel)) ggX13_alone_X13_boxOf
set_option maxRecDepth 20000 in
theorem ggX13_alone_X13_gaps : GoodIn wsX13_alone wsX13_gaps := goodIn_r _ [30, 1, 9, 13, 12, 4, 3, 11, 10, 31, 32, 24, 25, 17, 26, 21, 22, 23, 33, 34, 35, 36, 37, 38, 39, 40, 41, 42, 43, 44, 45, 46, 47, 48, 49, 50, 51, 52, 53, 54, 55, 56, 77, 78, 79, 80, 81, 82, 83, 84, 85, 86, 87, 88, 89, 90, 91, 92, 93, 94, 95, 96, 97, 98, 99, 100, 101, 102, 103, 104, 105, 106, 107, 108, 109, 110, 111, 112, 113, 114, 115, 116, 117, 118, 119, 120, 121, 122, 123, 124, 125, 126, 127, 128, 129, 130, 131, 132, 133, 134, 135, 136, 137, 138, 139, 140, 141, 142, 143, 144, 145, 146, 147] (by decide +kernel) (by decide +kernel)
set_option maxRecDepth 20000 in
theorem gX13_alone_X13_gaps : GoodIn wsX13_alone (wsV RX13 292 RX13 yX13_gaps wsX13_gaps) := goodIn_app (goodIn_of _ (by decide +kernel)) ggX13_alone_X13_gaps
set_option maxRecDepth 20000 in
theorem ggX13_alone_X13_areaOf : GoodIn wsX13_alone wsX13_areaOf := goodIn_r _ [60, 61, 62, 63, 64, 17, 65, 66, 67, 68, 69, 70, 71, 72, 73, 74, 75, 76, 77, 78, 79, 80, 81, 82, 83, 84, 85, 86, 87, 88, 89, 90, 91, 92, 93, 94, 95, 96, 97, 98, 99, 100, 101, 102, 103, 104, 105, 106, 107, 108, 109, 110, 111, 112, 113, 114, 115, 116, 117, 118, 119, 120, 121, 122, 123, 124, 125, 126, 127, 128, 129, 130, 131, 132, 133, 134, 135, 136, 137, 138, 139, 140, 141, 142, 143, 144, 145, 146, 147] (by decide +kernel) (by decide +kernel)
set_option maxRecDepth 20000 in
theorem gX13_alone_X13_areaOf : GoodIn wsX13_alone (wsV RX13 296 RX13 yX13_areaOf wsX13_areaOf) := goodIn_app (goodIn_of _ (by decide +kernel)) ggX13_alone_X13_areaOf
set_option maxRecDepth 20000 in
theorem ggX13_alone_X13_tell : GoodIn wsX13_alone wsX13_tell := goodIn_r _ [36, 37, 38, 39, 40, 41, 42, 43, 17, 44, 45, 46, 47, 48, 49, 50, 51, 52, 53, 54, 55, 56, 21, 22, 23, 24, 25, 26, 77, 78, 79, 80, 81, 82, 83, 84, 85, 86, 87, 88, 89, 90, 91, 92, 93, 94, 95, 96, 97, 98, 99, 100, 101, 102, 103, 104, 105, 106, 107, 108, 109, 110, 111, 112, 113, 114, 115, 116, 117, 118, 119, 120, 121, 122, 123, 124, 125, 126, 127, 128, 129, 130, 131, 132, 133, 134, 135, 136, 137, 138, 139, 140, 141, 142, 143, 144, 145, 146, 147] (by decide +kernel) (by decide +kernel)
set_option maxRecDepth 20000 in
theorem gX13_alone_X13_tell : GoodIn wsX13_alone (wsV RX13 276 RX13 yX13_tell wsX13_tell) := goodIn_app (goodIn_of _ (by decide +kernel)) ggX13_alone_X13_tell
theorem dX13_alone_0 : decode cX13_alone 0 = .ok (.aload_n 0, 1) := by decide +kernel
theorem dX13_alone_1 : decode cX13_alone 1 = .ok (.getfield 125, 3) := by decide +kernel
theorem dX13_alone_4 : decode cX13_alone 4 = .ok (.iconst 0, 1) := by decide +kernel
theorem dX13_alone_5 : decode cX13_alone 5 = .ok (.iaload, 1) := by decide +kernel
theorem dX13_alone_6 : decode cX13_alone 6 = .ok (.istore_n 1, 1) := by decide +kernel
theorem dX13_alone_7 : decode cX13_alone 7 = .ok (.aload_n 0, 1) := by decide +kernel
theorem dX13_alone_8 : decode cX13_alone 8 = .ok (.getfield 47, 3) := by decide +kernel
theorem dX13_alone_11 : decode cX13_alone 11 = .ok (.aload_n 0, 1) := by decide +kernel
theorem dX13_alone_12 : decode cX13_alone 12 = .ok (.getfield 254, 3) := by decide +kernel
theorem dX13_alone_15 : decode cX13_alone 15 = .ok (.iaload, 1) := by decide +kernel
theorem dX13_alone_16 : decode cX13_alone 16 = .ok (.istore_n 2, 1) := by decide +kernel
theorem dX13_alone_17 : decode cX13_alone 17 = .ok (.aload_n 0, 1) := by decide +kernel
theorem dX13_alone_18 : decode cX13_alone 18 = .ok (.iconst 0, 1) := by decide +kernel
theorem dX13_alone_19 : decode cX13_alone 19 = .ok (.invokevirtual 248, 3) := by decide +kernel
theorem dX13_alone_22 : decode cX13_alone 22 = .ok (.iload_n 2, 1) := by decide +kernel
theorem dX13_alone_23 : decode cX13_alone 23 = .ok (.ifCond .ne 26, 3) := by decide +kernel
theorem dX13_alone_26 : decode cX13_alone 26 = .ok (.aload_n 0, 1) := by decide +kernel
theorem dX13_alone_27 : decode cX13_alone 27 = .ok (.iconst 0, 1) := by decide +kernel
theorem dX13_alone_28 : decode cX13_alone 28 = .ok (.iconst 2, 1) := by decide +kernel
theorem dX13_alone_29 : decode cX13_alone 29 = .ok (.iconst 0, 1) := by decide +kernel
theorem dX13_alone_30 : decode cX13_alone 30 = .ok (.iconst 0, 1) := by decide +kernel
theorem dX13_alone_31 : decode cX13_alone 31 = .ok (.lconst 1, 1) := by decide +kernel
theorem dX13_alone_32 : decode cX13_alone 32 = .ok (.iconst 0, 1) := by decide +kernel
theorem dX13_alone_33 : decode cX13_alone 33 = .ok (.invokevirtual 292, 3) := by decide +kernel
theorem dX13_alone_36 : decode cX13_alone 36 = .ok (.aload_n 0, 1) := by decide +kernel
theorem dX13_alone_37 : decode cX13_alone 37 = .ok (.iconst 0, 1) := by decide +kernel
theorem dX13_alone_38 : decode cX13_alone 38 = .ok (.iconst 3, 1) := by decide +kernel
theorem dX13_alone_39 : decode cX13_alone 39 = .ok (.iconst 0, 1) := by decide +kernel
theorem dX13_alone_40 : decode cX13_alone 40 = .ok (.iconst 1, 1) := by decide +kernel
theorem dX13_alone_41 : decode cX13_alone 41 = .ok (.lconst 1, 1) := by decide +kernel
theorem dX13_alone_42 : decode cX13_alone 42 = .ok (.iconst 0, 1) := by decide +kernel
theorem dX13_alone_43 : decode cX13_alone 43 = .ok (.invokevirtual 292, 3) := by decide +kernel
theorem dX13_alone_46 : decode cX13_alone 46 = .ok (.goto 138, 3) := by decide +kernel
theorem dX13_alone_49 : decode cX13_alone 49 = .ok (.iload_n 2, 1) := by decide +kernel
theorem dX13_alone_50 : decode cX13_alone 50 = .ok (.iconst 1, 1) := by decide +kernel
theorem dX13_alone_51 : decode cX13_alone 51 = .ok (.if_icmp .ne 26, 3) := by decide +kernel
theorem dX13_alone_54 : decode cX13_alone 54 = .ok (.aload_n 0, 1) := by decide +kernel
theorem dX13_alone_55 : decode cX13_alone 55 = .ok (.iconst 0, 1) := by decide +kernel
theorem dX13_alone_56 : decode cX13_alone 56 = .ok (.iconst 0, 1) := by decide +kernel
theorem dX13_alone_57 : decode cX13_alone 57 = .ok (.iconst 0, 1) := by decide +kernel
theorem dX13_alone_58 : decode cX13_alone 58 = .ok (.iconst 2, 1) := by decide +kernel
theorem dX13_alone_59 : decode cX13_alone 59 = .ok (.lconst 1, 1) := by decide +kernel
theorem dX13_alone_60 : decode cX13_alone 60 = .ok (.iconst 0, 1) := by decide +kernel
theorem dX13_alone_61 : decode cX13_alone 61 = .ok (.invokevirtual 292, 3) := by decide +kernel
theorem dX13_alone_64 : decode cX13_alone 64 = .ok (.aload_n 0, 1) := by decide +kernel
theorem dX13_alone_65 : decode cX13_alone 65 = .ok (.iconst 0, 1) := by decide +kernel
theorem dX13_alone_66 : decode cX13_alone 66 = .ok (.iconst 1, 1) := by decide +kernel
theorem dX13_alone_67 : decode cX13_alone 67 = .ok (.iconst 0, 1) := by decide +kernel
theorem dX13_alone_68 : decode cX13_alone 68 = .ok (.iconst 3, 1) := by decide +kernel
theorem dX13_alone_69 : decode cX13_alone 69 = .ok (.lconst 1, 1) := by decide +kernel
theorem dX13_alone_70 : decode cX13_alone 70 = .ok (.iconst 0, 1) := by decide +kernel
theorem dX13_alone_71 : decode cX13_alone 71 = .ok (.invokevirtual 292, 3) := by decide +kernel
theorem dX13_alone_74 : decode cX13_alone 74 = .ok (.goto 110, 3) := by decide +kernel
theorem dX13_alone_77 : decode cX13_alone 77 = .ok (.iload_n 2, 1) := by decide +kernel
theorem dX13_alone_78 : decode cX13_alone 78 = .ok (.iconst 2, 1) := by decide +kernel
theorem dX13_alone_79 : decode cX13_alone 79 = .ok (.if_icmp .ne 51, 3) := by decide +kernel
theorem dX13_alone_82 : decode cX13_alone 82 = .ok (.aload_n 0, 1) := by decide +kernel
theorem dX13_alone_83 : decode cX13_alone 83 = .ok (.iload_n 1, 1) := by decide +kernel
theorem dX13_alone_84 : decode cX13_alone 84 = .ok (.invokevirtual 296, 3) := by decide +kernel
theorem dX13_alone_87 : decode cX13_alone 87 = .ok (.aload_n 0, 1) := by decide +kernel
theorem dX13_alone_88 : decode cX13_alone 88 = .ok (.getfield 56, 3) := by decide +kernel
theorem dX13_alone_91 : decode cX13_alone 91 = .ok (.aload_n 0, 1) := by decide +kernel
theorem dX13_alone_92 : decode cX13_alone 92 = .ok (.getfield 254, 3) := by decide +kernel
theorem dX13_alone_95 : decode cX13_alone 95 = .ok (.laload, 1) := by decide +kernel
theorem dX13_alone_96 : decode cX13_alone 96 = .ok (.lcmp, 1) := by decide +kernel
theorem dX13_alone_97 : decode cX13_alone 97 = .ok (.ifCond .ge 33, 3) := by decide +kernel
theorem dX13_alone_100 : decode cX13_alone 100 = .ok (.aload_n 0, 1) := by decide +kernel
theorem dX13_alone_101 : decode cX13_alone 101 = .ok (.aload_n 0, 1) := by decide +kernel
theorem dX13_alone_102 : decode cX13_alone 102 = .ok (.getfield 236, 3) := by decide +kernel
theorem dX13_alone_105 : decode cX13_alone 105 = .ok (.aload_n 0, 1) := by decide +kernel
theorem dX13_alone_106 : decode cX13_alone 106 = .ok (.getfield 239, 3) := by decide +kernel
theorem dX13_alone_109 : decode cX13_alone 109 = .ok (.aload_n 0, 1) := by decide +kernel
theorem dX13_alone_110 : decode cX13_alone 110 = .ok (.getfield 242, 3) := by decide +kernel
theorem dX13_alone_113 : decode cX13_alone 113 = .ok (.aload_n 0, 1) := by decide +kernel
theorem dX13_alone_114 : decode cX13_alone 114 = .ok (.getfield 245, 3) := by decide +kernel
theorem dX13_alone_117 : decode cX13_alone 117 = .ok (.iload_n 1, 1) := by decide +kernel
theorem dX13_alone_118 : decode cX13_alone 118 = .ok (.iconst (-1), 1) := by decide +kernel
theorem dX13_alone_119 : decode cX13_alone 119 = .ok (.aload_n 0, 1) := by decide +kernel
theorem dX13_alone_120 : decode cX13_alone 120 = .ok (.iload_n 1, 1) := by decide +kernel
theorem dX13_alone_121 : decode cX13_alone 121 = .ok (.invokevirtual 296, 3) := by decide +kernel
theorem dX13_alone_124 : decode cX13_alone 124 = .ok (.invokevirtual 276, 3) := by decide +kernel
theorem dX13_alone_127 : decode cX13_alone 127 = .ok (.goto 57, 3) := by decide +kernel
theorem dX13_alone_130 : decode cX13_alone 130 = .ok (.iload_n 2, 1) := by decide +kernel
theorem dX13_alone_131 : decode cX13_alone 131 = .ok (.iconst 4, 1) := by decide +kernel
theorem dX13_alone_132 : decode cX13_alone 132 = .ok (.if_icmp .ne 52, 3) := by decide +kernel
theorem dX13_alone_135 : decode cX13_alone 135 = .ok (.aload_n 0, 1) := by decide +kernel
theorem dX13_alone_136 : decode cX13_alone 136 = .ok (.getfield 101, 3) := by decide +kernel
theorem dX13_alone_139 : decode cX13_alone 139 = .ok (.iconst 0, 1) := by decide +kernel
theorem dX13_alone_140 : decode cX13_alone 140 = .ok (.iaload, 1) := by decide +kernel
theorem dX13_alone_141 : decode cX13_alone 141 = .ok (.i2l, 1) := by decide +kernel
theorem dX13_alone_142 : decode cX13_alone 142 = .ok (.aload_n 0, 1) := by decide +kernel
theorem dX13_alone_143 : decode cX13_alone 143 = .ok (.getfield 56, 3) := by decide +kernel
theorem dX13_alone_146 : decode cX13_alone 146 = .ok (.aload_n 0, 1) := by decide +kernel
theorem dX13_alone_147 : decode cX13_alone 147 = .ok (.getfield 254, 3) := by decide +kernel
theorem dX13_alone_150 : decode cX13_alone 150 = .ok (.laload, 1) := by decide +kernel
theorem dX13_alone_151 : decode cX13_alone 151 = .ok (.lcmp, 1) := by decide +kernel
theorem dX13_alone_152 : decode cX13_alone 152 = .ok (.ifCond .ge 32, 3) := by decide +kernel
theorem dX13_alone_155 : decode cX13_alone 155 = .ok (.aload_n 0, 1) := by decide +kernel
theorem dX13_alone_156 : decode cX13_alone 156 = .ok (.aload_n 0, 1) := by decide +kernel
theorem dX13_alone_157 : decode cX13_alone 157 = .ok (.getfield 236, 3) := by decide +kernel
theorem dX13_alone_160 : decode cX13_alone 160 = .ok (.aload_n 0, 1) := by decide +kernel
theorem dX13_alone_161 : decode cX13_alone 161 = .ok (.getfield 239, 3) := by decide +kernel
theorem dX13_alone_164 : decode cX13_alone 164 = .ok (.aload_n 0, 1) := by decide +kernel
theorem dX13_alone_165 : decode cX13_alone 165 = .ok (.getfield 242, 3) := by decide +kernel
theorem dX13_alone_168 : decode cX13_alone 168 = .ok (.aload_n 0, 1) := by decide +kernel
theorem dX13_alone_169 : decode cX13_alone 169 = .ok (.getfield 245, 3) := by decide +kernel
theorem dX13_alone_172 : decode cX13_alone 172 = .ok (.iload_n 1, 1) := by decide +kernel
theorem dX13_alone_173 : decode cX13_alone 173 = .ok (.iconst (-1), 1) := by decide +kernel
theorem dX13_alone_174 : decode cX13_alone 174 = .ok (.aload_n 0, 1) := by decide +kernel
theorem dX13_alone_175 : decode cX13_alone 175 = .ok (.getfield 101, 3) := by decide +kernel
theorem dX13_alone_178 : decode cX13_alone 178 = .ok (.iconst 0, 1) := by decide +kernel
theorem dX13_alone_179 : decode cX13_alone 179 = .ok (.iaload, 1) := by decide +kernel
theorem dX13_alone_180 : decode cX13_alone 180 = .ok (.i2l, 1) := by decide +kernel
theorem dX13_alone_181 : decode cX13_alone 181 = .ok (.invokevirtual 276, 3) := by decide +kernel
theorem dX13_alone_184 : decode cX13_alone 184 = .ok (.iconst 0, 1) := by decide +kernel
theorem dX13_alone_185 : decode cX13_alone 185 = .ok (.istore_n 3, 1) := by decide +kernel
theorem dX13_alone_186 : decode cX13_alone 186 = .ok (.iload_n 3, 1) := by decide +kernel
theorem dX13_alone_187 : decode cX13_alone 187 = .ok (.aload_n 0, 1) := by decide +kernel
theorem dX13_alone_188 : decode cX13_alone 188 = .ok (.getfield 101, 3) := by decide +kernel
theorem dX13_alone_191 : decode cX13_alone 191 = .ok (.iconst 0, 1) := by decide +kernel
theorem dX13_alone_192 : decode cX13_alone 192 = .ok (.iaload, 1) := by decide +kernel
theorem dX13_alone_193 : decode cX13_alone 193 = .ok (.if_icmp .ge 157, 3) := by decide +kernel
theorem dX13_alone_196 : decode cX13_alone 196 = .ok (.iload_n 2, 1) := by decide +kernel
theorem dX13_alone_197 : decode cX13_alone 197 = .ok (.iconst 3, 1) := by decide +kernel
theorem dX13_alone_198 : decode cX13_alone 198 = .ok (.if_icmp .ne 152, 3) := by decide +kernel
theorem dX13_alone_201 : decode cX13_alone 201 = .ok (.aload_n 0, 1) := by decide +kernel
theorem dX13_alone_202 : decode cX13_alone 202 = .ok (.getfield 122, 3) := by decide +kernel
theorem dX13_alone_205 : decode cX13_alone 205 = .ok (.iload_n 3, 1) := by decide +kernel
theorem dX13_alone_206 : decode cX13_alone 206 = .ok (.laload, 1) := by decide +kernel
theorem dX13_alone_207 : decode cX13_alone 207 = .ok (.aload_n 0, 1) := by decide +kernel
theorem dX13_alone_208 : decode cX13_alone 208 = .ok (.getfield 119, 3) := by decide +kernel
theorem dX13_alone_211 : decode cX13_alone 211 = .ok (.iload_n 3, 1) := by decide +kernel
theorem dX13_alone_212 : decode cX13_alone 212 = .ok (.laload, 1) := by decide +kernel
theorem dX13_alone_213 : decode cX13_alone 213 = .ok (.lsub, 1) := by decide +kernel
theorem dX13_alone_214 : decode cX13_alone 214 = .ok (.aload_n 0, 1) := by decide +kernel
theorem dX13_alone_215 : decode cX13_alone 215 = .ok (.getfield 56, 3) := by decide +kernel
theorem dX13_alone_218 : decode cX13_alone 218 = .ok (.aload_n 0, 1) := by decide +kernel
theorem dX13_alone_219 : decode cX13_alone 219 = .ok (.getfield 254, 3) := by decide +kernel
theorem dX13_alone_222 : decode cX13_alone 222 = .ok (.laload, 1) := by decide +kernel
theorem dX13_alone_223 : decode cX13_alone 223 = .ok (.lcmp, 1) := by decide +kernel
theorem dX13_alone_224 : decode cX13_alone 224 = .ok (.ifCond .ge 120, 3) := by decide +kernel
theorem dX13_alone_227 : decode cX13_alone 227 = .ok (.aload_n 0, 1) := by decide +kernel
theorem dX13_alone_228 : decode cX13_alone 228 = .ok (.getfield 113, 3) := by decide +kernel
theorem dX13_alone_231 : decode cX13_alone 231 = .ok (.iload_n 3, 1) := by decide +kernel
theorem dX13_alone_232 : decode cX13_alone 232 = .ok (.iaload, 1) := by decide +kernel
theorem dX13_alone_233 : decode cX13_alone 233 = .ok (.iconst 2, 1) := by decide +kernel
theorem dX13_alone_234 : decode cX13_alone 234 = .ok (.irem, 1) := by decide +kernel
theorem dX13_alone_235 : decode cX13_alone 235 = .ok (.ifCond .ne 7, 3) := by decide +kernel
theorem dX13_alone_238 : decode cX13_alone 238 = .ok (.iconst 1, 1) := by decide +kernel
theorem dX13_alone_239 : decode cX13_alone 239 = .ok (.goto 4, 3) := by decide +kernel
theorem dX13_alone_242 : decode cX13_alone 242 = .ok (.iconst 0, 1) := by decide +kernel
theorem dX13_alone_243 : decode cX13_alone 243 = .ok (.istore 4, 2) := by decide +kernel
theorem dX13_alone_245 : decode cX13_alone 245 = .ok (.aload_n 0, 1) := by decide +kernel
theorem dX13_alone_246 : decode cX13_alone 246 = .ok (.iload 4, 2) := by decide +kernel
theorem dX13_alone_248 : decode cX13_alone 248 = .ok (.ifCond .eq 12, 3) := by decide +kernel
theorem dX13_alone_251 : decode cX13_alone 251 = .ok (.aload_n 0, 1) := by decide +kernel
theorem dX13_alone_252 : decode cX13_alone 252 = .ok (.getfield 116, 3) := by decide +kernel
theorem dX13_alone_255 : decode cX13_alone 255 = .ok (.iload_n 3, 1) := by decide +kernel
theorem dX13_alone_256 : decode cX13_alone 256 = .ok (.laload, 1) := by decide +kernel
theorem dX13_alone_257 : decode cX13_alone 257 = .ok (.goto 9, 3) := by decide +kernel
theorem dX13_alone_260 : decode cX13_alone 260 = .ok (.aload_n 0, 1) := by decide +kernel
theorem dX13_alone_261 : decode cX13_alone 261 = .ok (.getfield 119, 3) := by decide +kernel
theorem dX13_alone_264 : decode cX13_alone 264 = .ok (.iload_n 3, 1) := by decide +kernel
theorem dX13_alone_265 : decode cX13_alone 265 = .ok (.laload, 1) := by decide +kernel
theorem dX13_alone_266 : decode cX13_alone 266 = .ok (.iload 4, 2) := by decide +kernel
theorem dX13_alone_268 : decode cX13_alone 268 = .ok (.ifCond .eq 12, 3) := by decide +kernel
theorem dX13_alone_271 : decode cX13_alone 271 = .ok (.aload_n 0, 1) := by decide +kernel
theorem dX13_alone_272 : decode cX13_alone 272 = .ok (.getfield 119, 3) := by decide +kernel
theorem dX13_alone_275 : decode cX13_alone 275 = .ok (.iload_n 3, 1) := by decide +kernel
theorem dX13_alone_276 : decode cX13_alone 276 = .ok (.laload, 1) := by decide +kernel
theorem dX13_alone_277 : decode cX13_alone 277 = .ok (.goto 9, 3) := by decide +kernel
theorem dX13_alone_280 : decode cX13_alone 280 = .ok (.aload_n 0, 1) := by decide +kernel
theorem dX13_alone_281 : decode cX13_alone 281 = .ok (.getfield 116, 3) := by decide +kernel
theorem dX13_alone_284 : decode cX13_alone 284 = .ok (.iload_n 3, 1) := by decide +kernel
theorem dX13_alone_285 : decode cX13_alone 285 = .ok (.laload, 1) := by decide +kernel
theorem dX13_alone_286 : decode cX13_alone 286 = .ok (.iload 4, 2) := by decide +kernel
theorem dX13_alone_288 : decode cX13_alone 288 = .ok (.ifCond .eq 12, 3) := by decide +kernel
theorem dX13_alone_291 : decode cX13_alone 291 = .ok (.aload_n 0, 1) := by decide +kernel
theorem dX13_alone_292 : decode cX13_alone 292 = .ok (.getfield 116, 3) := by decide +kernel
theorem dX13_alone_295 : decode cX13_alone 295 = .ok (.iload_n 3, 1) := by decide +kernel
theorem dX13_alone_296 : decode cX13_alone 296 = .ok (.laload, 1) := by decide +kernel
theorem dX13_alone_297 : decode cX13_alone 297 = .ok (.goto 9, 3) := by decide +kernel
theorem dX13_alone_300 : decode cX13_alone 300 = .ok (.aload_n 0, 1) := by decide +kernel
theorem dX13_alone_301 : decode cX13_alone 301 = .ok (.getfield 122, 3) := by decide +kernel
theorem dX13_alone_304 : decode cX13_alone 304 = .ok (.iload_n 3, 1) := by decide +kernel
theorem dX13_alone_305 : decode cX13_alone 305 = .ok (.laload, 1) := by decide +kernel
theorem dX13_alone_306 : decode cX13_alone 306 = .ok (.iload 4, 2) := by decide +kernel
theorem dX13_alone_308 : decode cX13_alone 308 = .ok (.ifCond .eq 12, 3) := by decide +kernel
theorem dX13_alone_311 : decode cX13_alone 311 = .ok (.aload_n 0, 1) := by decide +kernel
theorem dX13_alone_312 : decode cX13_alone 312 = .ok (.getfield 122, 3) := by decide +kernel
theorem dX13_alone_315 : decode cX13_alone 315 = .ok (.iload_n 3, 1) := by decide +kernel
theorem dX13_alone_316 : decode cX13_alone 316 = .ok (.laload, 1) := by decide +kernel
theorem dX13_alone_317 : decode cX13_alone 317 = .ok (.goto 9, 3) := by decide +kernel
theorem dX13_alone_320 : decode cX13_alone 320 = .ok (.aload_n 0, 1) := by decide +kernel
theorem dX13_alone_321 : decode cX13_alone 321 = .ok (.getfield 116, 3) := by decide +kernel
theorem dX13_alone_324 : decode cX13_alone 324 = .ok (.iload_n 3, 1) := by decide +kernel
theorem dX13_alone_325 : decode cX13_alone 325 = .ok (.laload, 1) := by decide +kernel
theorem dX13_alone_326 : decode cX13_alone 326 = .ok (.iload_n 1, 1) := by decide +kernel
theorem dX13_alone_327 : decode cX13_alone 327 = .ok (.iconst (-1), 1) := by decide +kernel
theorem dX13_alone_328 : decode cX13_alone 328 = .ok (.aload_n 0, 1) := by decide +kernel
theorem dX13_alone_329 : decode cX13_alone 329 = .ok (.getfield 122, 3) := by decide +kernel
theorem dX13_alone_332 : decode cX13_alone 332 = .ok (.iload_n 3, 1) := by decide +kernel
theorem dX13_alone_333 : decode cX13_alone 333 = .ok (.laload, 1) := by decide +kernel
theorem dX13_alone_334 : decode cX13_alone 334 = .ok (.aload_n 0, 1) := by decide +kernel
theorem dX13_alone_335 : decode cX13_alone 335 = .ok (.getfield 119, 3) := by decide +kernel
theorem dX13_alone_338 : decode cX13_alone 338 = .ok (.iload_n 3, 1) := by decide +kernel
theorem dX13_alone_339 : decode cX13_alone 339 = .ok (.laload, 1) := by decide +kernel
theorem dX13_alone_340 : decode cX13_alone 340 = .ok (.lsub, 1) := by decide +kernel
theorem dX13_alone_341 : decode cX13_alone 341 = .ok (.invokevirtual 276, 3) := by decide +kernel
theorem dX13_alone_344 : decode cX13_alone 344 = .ok (.iinc 3 1, 3) := by decide +kernel
theorem dX13_alone_347 : decode cX13_alone 347 = .ok (.goto (-161), 3) := by decide +kernel
theorem dX13_alone_350 : decode cX13_alone 350 = .ok (.return_, 1) := by decide +kernel

abbrev mX13_alone : sv_M := (cX13_alone, 5, yX13_alone, wsX13_alone, none, { frames := 10, cells := 0, slots := 0, locals := 260 }, [])
/-- what one polygon tells the model: its edges, and the rest -/
def aQe (M : mvT) (kd : Nat) (x3 : Int32) (hmI : Int) (n pg : Nat → Nat) (cc : Nat → Nat → Int × Int) (k : Nat) : List (List Int64) := (List.range k).flatMap (fun s => (edR x3 (pg 0 : Int) hmI (fcM (twS (cc 0) (n 0)) (cc 0) s) (itM (cc 0) s)).map (mvR M))
def aQm (M : mvT) (x3 : Int32) (hmI : Int) (n pg : Nat → Nat) (cc : Nat → Nat → Int × Int) (m : Int) : List (List Int64) := if m < x3.toInt then [mvR M (rwI (bxk (cc 0) (n 0 - 1) 0) (bxk (cc 0) (n 0 - 1) 1) (bxk (cc 0) (n 0 - 1) 2) (bxk (cc 0) (n 0 - 1) 3) (pg 0 : Int) (-1) m hmI)] else []
def aQ1 (M : mvT) (kd : Nat) (x3 x4 x6 : Int32) (hmI : Int) (n pg : Nat → Nat) (cc : Nat → Nat → Int × Int) (A : Int) : List (List Int64) := if kd = 0 then gQ M x3 x4 x6 hmI n pg cc 0 2 0 0 1 0 ++ gQ M x3 x4 x6 hmI n pg cc 0 3 0 1 1 0 else if kd = 1 then gQ M x3 x4 x6 hmI n pg cc 0 0 0 2 1 0 ++ gQ M x3 x4 x6 hmI n pg cc 0 1 0 3 1 0 else if kd = 2 then aQm M x3 hmI n pg cc A else if kd = 4 then aQm M x3 hmI n pg cc (n 0 : Int) else []
def aQ (M : mvT) (kd : Nat) (x3 x4 x6 : Int32) (hmI : Int) (n pg : Nat → Nat) (cc : Nat → Nat → Int × Int) (A : Int) : List (List Int64) := aQ1 M kd x3 x4 x6 hmI n pg cc A ++ if kd = 3 then aQe M kd x3 hmI n pg cc (n 0) else []
set_option maxHeartbeats 4000000 in
set_option maxRecDepth 100000 in
theorem t_al245T (G : sv_G) (Qr : Option Value → sv_h → Nat → Prop) (z b nc np pl : Nat) (R : Nat → Bool) (hm p3 p4 sz : Nat → Nat) (ly vo : Nat → Int32) (mp : Nat → mvT) (X Y : Nat → Nat → Int) (hb : sv_h) (fs0 : List Value) (hq0 : mfq_ b nc np pl fs0) (MY : myl_ G hb b nc np pl R hm p3 p4 sz ly vo mp X Y) (O : List (List Nat × Nat)) (MO : moc_ G hb b O) (o : Nat) (ho : o < O.length) (how : ∀ i, i ∈ (O.getD o ([], 0)).1 → i < pl) (d : Nat) (hd : d ≤ (O.getD o ([], 0)).1.length) (h60 : fs0[60]? = some (.int (nI o))) (h61 : fs0[61]? = some (.int (nI d))) (mc : Nat) (hmc : mc < 100) (h62 : fs0[62]? = some (.int (nI mc))) (hMB : ∀ x y : Int, -200000 ≤ x ∧ x ≤ 200000 → -200000 ≤ y ∧ y ≤ 200000 → (-1000000000 ≤ (mvA (mvW mp ((O.getD o ([], 0)).1.take d)) (x, y)).1 ∧ (mvA (mvW mp ((O.getD o ([], 0)).1.take d)) (x, y)).1 ≤ 1000000000) ∧ (-1000000000 ≤ (mvA (mvW mp ((O.getD o ([], 0)).1.take d)) (x, y)).2 ∧ (mvA (mvW mp ((O.getD o ([], 0)).1.take d)) (x, y)).2 ≤ 1000000000)) (ri kd : Nat) (l1 l2 x3 x4 x5 x6 : Int32) (RU : mru_ G hb b ri kd l1 l2 x3 x4 x5 x6) (h58 : fs0[58]? = some (.int (nI ri))) (hen : x6 = -1 ∨ 0 ≤ x6) (n pg : Nat → Nat) (cc : Nat → Nat → Int × Int) (LD : mld_ G hb b 1 n pg cc) (LK : mlk_ 1 n pg cc) (s : Nat) (hs : s < n 0) (hcon : (itM (cc 0) s).2.2 - (itM (cc 0) s).2.1 < x3.toInt) (hup : upr (fcM (twS (cc 0) (n 0)) (cc 0) s) = true) (E0 : List (List Int64)) (hk : ∀ (h : sv_h) (fs : List Value), h (b + 220) = some (.inr (11, fs)) → fs.length = 71 → fsE [28, 29, 52, 53] fs0 fs → (∀ a, a ≠ b + 220 → a ≠ b + 241 → h a = hb a) → mT_ gu G h b fs ((E0 ++ aQe (mvW mp ((O.getD o ([], 0)).1.take d)) kd x3 (mc : Int) n pg cc (s + 1))) → V G mX13_alone (sv_MQ G mX13_alone Qr) 344 [(3, .int (nI s)), (2, .int (nI kd)), (1, .int (nI (pg 0))), (0, .ref (b + 220))] [] h z 0 0) (h : sv_h) (fs : List Value) (hm9 : h (b + 220) = some (.inr (11, fs))) (hl : fs.length = 71) (hE : fsE [28, 29, 52, 53] fs0 fs) (fr : (∀ a, a ≠ b + 220 → a ≠ b + 241 → h a = hb a)) (T : mT_ gu G h b fs (E0 ++ aQe (mvW mp ((O.getD o ([], 0)).1.take d)) kd x3 (mc : Int) n pg cc s)) : V G mX13_alone (sv_MQ G mX13_alone Qr) 245 [(4, .int 1), (3, .int (nI s)), (2, .int (nI kd)), (1, .int (nI (pg 0))), (0, .ref (b + 220))] [] h z 0 0 := by
  obtain ⟨k0, k1⟩ := id LK
  obtain ⟨r0, r1, ⟨j33, r33, r33a⟩, _, _, ⟨j36, r36, r36a⟩, _, _, _⟩ := id RU
  obtain ⟨fsd, fo, ft, ff, gx, gy, gp, gl, gh, d49, d50, d51, d52, d53, d54, d55, d56, d57, dd⟩ := id LD
  obtain ⟨⟨zv1, zv2⟩, pv, cv⟩ := k1 0 (by decide)
  obtain ⟨sv1, sv2, sv3, sv4, sv5⟩ := dd 0 (by decide)
  have hqf := hq0.to (S := [28, 29, 52, 53]) hl hE (by decide)
  have hlen : fs.length = 71 := hl
  have f_sides := hqf.f_sides
  have f_face := hqf.f_face
  have f_pos := hqf.f_pos
  have f_low := hqf.f_low
  have f_high := hqf.f_high
  have f_ofPolygon := hqf.f_ofPolygon
  have f_bound := hqf.f_bound
  have f_kind := hqf.f_kind
  have f_rule : fs[58]? = some (.int (nI ri)) := (hE 58 (by decide)).trans h58
  have w249 : ab_I G h (b + 249) 2 fsd := (fr _ (by omega) (by omega)).trans d49
  have w253 : ab_I G h (b + 253) 32 ff := (fr _ (by omega) (by omega)).trans d53
  have w254 : ab_J G h (b + 254) 32 gp := (fr _ (by omega) (by omega)).trans d54
  have w255 : ab_J G h (b + 255) 32 gl := (fr _ (by omega) (by omega)).trans d55
  have w256 : ab_J G h (b + 256) 32 gh := (fr _ (by omega) (by omega)).trans d56
  have w257 : ab_I G h (b + 257) 2 fo := (fr _ (by omega) (by omega)).trans d57
  have w236 : ab_J G h (b + 236) 40 j36 := (fr _ (by omega) (by omega)).trans r36
  have w233 : ab_I G h (b + 233) 40 j33 := (fr _ (by omega) (by omega)).trans r33
  have X3a := x3.le_toInt
  have X3b := x3.toInt_lt
  have q5 := sv5 s hs
  rw [Nat.mul_zero, Nat.zero_add] at q5
  obtain ⟨q1, q2, q3, q4⟩ := q5
  obtain ⟨a1, a2, a3⟩ := itM_b cv hs
  refine v_aload_n dX13_alone_245 rfl 4 rfl ?_
  refine v_iload dX13_alone_246 0 rfl ?_
  refine v_if_eq (tgt := 260) dX13_alone_248 (by decide) (fun c_248 => ?_) (fun c_248 => ?_)
  · exact absurd c_248 (by decide)
  · refine v_aload_n dX13_alone_251 rfl 4 rfl ?_
    refine v_getf 48 (ci := 11) (C := RX13) (T := TX13) (N := 71) rfl iwX13_alone_X13 (Nat.le_of_ble_eq_true rfl) (by decide +kernel) dX13_alone_252 (by first | with_reducible assumption) (by repeat (first | with_reducible assumption | (with_reducible refine (sv_ls (by first | omega | (simp only [List.length_set]; omega))).trans ?_; exact rfl) | with_reducible refine (List.getElem?_set_ne (by decide)).trans ?_)) ?_
    refine v_iload_n dX13_alone_255 rfl 1 rfl ?_
    refine v_laldS (v := jN (itM (cc 0) s).1) dX13_alone_256 (by first | with_reducible assumption) (vp_in_nI (by omega) (by omega)) (by rw [nI_clamp (by omega)]; exact q2) ?_
    refine v_goto (tgt := 266) dX13_alone_257 (by decide) ?_
    refine v_iload dX13_alone_266 0 rfl ?_
    refine v_if_eq (tgt := 280) dX13_alone_268 (by decide) (fun c_268 => ?_) (fun c_268 => ?_)
    · exact absurd c_268 (by decide)
    · refine v_aload_n dX13_alone_271 rfl 4 rfl ?_
      refine v_getf 49 (ci := 11) (C := RX13) (T := TX13) (N := 71) rfl iwX13_alone_X13 (Nat.le_of_ble_eq_true rfl) (by decide +kernel) dX13_alone_272 (by first | with_reducible assumption) (by repeat (first | with_reducible assumption | (with_reducible refine (sv_ls (by first | omega | (simp only [List.length_set]; omega))).trans ?_; exact rfl) | with_reducible refine (List.getElem?_set_ne (by decide)).trans ?_)) ?_
      refine v_iload_n dX13_alone_275 rfl 1 rfl ?_
      refine v_laldS (v := jN (itM (cc 0) s).2.1) dX13_alone_276 (by first | with_reducible assumption) (vp_in_nI (by omega) (by omega)) (by rw [nI_clamp (by omega)]; exact q3) ?_
      refine v_goto (tgt := 286) dX13_alone_277 (by decide) ?_
      refine v_iload dX13_alone_286 0 rfl ?_
      refine v_if_eq (tgt := 300) dX13_alone_288 (by decide) (fun c_288 => ?_) (fun c_288 => ?_)
      · exact absurd c_288 (by decide)
      · refine v_aload_n dX13_alone_291 rfl 4 rfl ?_
        refine v_getf 48 (ci := 11) (C := RX13) (T := TX13) (N := 71) rfl iwX13_alone_X13 (Nat.le_of_ble_eq_true rfl) (by decide +kernel) dX13_alone_292 (by first | with_reducible assumption) (by repeat (first | with_reducible assumption | (with_reducible refine (sv_ls (by first | omega | (simp only [List.length_set]; omega))).trans ?_; exact rfl) | with_reducible refine (List.getElem?_set_ne (by decide)).trans ?_)) ?_
        refine v_iload_n dX13_alone_295 rfl 1 rfl ?_
        refine v_laldS (v := jN (itM (cc 0) s).1) dX13_alone_296 (by first | with_reducible assumption) (vp_in_nI (by omega) (by omega)) (by rw [nI_clamp (by omega)]; exact q2) ?_
        refine v_goto (tgt := 306) dX13_alone_297 (by decide) ?_
        refine v_iload dX13_alone_306 0 rfl ?_
        refine v_if_eq (tgt := 320) dX13_alone_308 (by decide) (fun c_308 => ?_) (fun c_308 => ?_)
        · exact absurd c_308 (by decide)
        · refine v_aload_n dX13_alone_311 rfl 4 rfl ?_
          refine v_getf 50 (ci := 11) (C := RX13) (T := TX13) (N := 71) rfl iwX13_alone_X13 (Nat.le_of_ble_eq_true rfl) (by decide +kernel) dX13_alone_312 (by first | with_reducible assumption) (by repeat (first | with_reducible assumption | (with_reducible refine (sv_ls (by first | omega | (simp only [List.length_set]; omega))).trans ?_; exact rfl) | with_reducible refine (List.getElem?_set_ne (by decide)).trans ?_)) ?_
          refine v_iload_n dX13_alone_315 rfl 1 rfl ?_
          refine v_laldS (v := jN (itM (cc 0) s).2.2) dX13_alone_316 (by first | with_reducible assumption) (vp_in_nI (by omega) (by omega)) (by rw [nI_clamp (by omega)]; exact q4) ?_
          refine v_goto (tgt := 326) dX13_alone_317 (by decide) ?_
          refine v_iload_n dX13_alone_326 rfl 3 rfl ?_
          refine v_iconst (v := (-1)) dX13_alone_327 (by decide) ?_
          refine v_aload_n dX13_alone_328 rfl 4 rfl ?_
          refine v_getf 50 (ci := 11) (C := RX13) (T := TX13) (N := 71) rfl iwX13_alone_X13 (Nat.le_of_ble_eq_true rfl) (by decide +kernel) dX13_alone_329 (by first | with_reducible assumption) (by repeat (first | with_reducible assumption | (with_reducible refine (sv_ls (by first | omega | (simp only [List.length_set]; omega))).trans ?_; exact rfl) | with_reducible refine (List.getElem?_set_ne (by decide)).trans ?_)) ?_
          refine v_iload_n dX13_alone_332 rfl 1 rfl ?_
          refine v_laldS (v := jN (itM (cc 0) s).2.2) dX13_alone_333 (by first | with_reducible assumption) (vp_in_nI (by omega) (by omega)) (by rw [nI_clamp (by omega)]; exact q4) ?_
          refine v_aload_n dX13_alone_334 rfl 4 rfl ?_
          refine v_getf 49 (ci := 11) (C := RX13) (T := TX13) (N := 71) rfl iwX13_alone_X13 (Nat.le_of_ble_eq_true rfl) (by decide +kernel) dX13_alone_335 (by first | with_reducible assumption) (by repeat (first | with_reducible assumption | (with_reducible refine (sv_ls (by first | omega | (simp only [List.length_set]; omega))).trans ?_; exact rfl) | with_reducible refine (List.getElem?_set_ne (by decide)).trans ?_)) ?_
          refine v_iload_n dX13_alone_338 rfl 1 rfl ?_
          refine v_laldS (v := jN (itM (cc 0) s).2.1) dX13_alone_339 (by first | with_reducible assumption) (vp_in_nI (by omega) (by omega)) (by rw [nI_clamp (by omega)]; exact q3) ?_
          refine v_lsub dX13_alone_340 ?_
          rw [← jN_sub]
          refine v_callVq (M' := mX13_tell) (n := 7) (As := [_, _, _, _, _, _, _]) (ci := 11) (r := (RX13, TX13, 71)) gX13_alone_X13_tell rfl (by decide +kernel) ⟨(Nat.le_of_ble_eq_true rfl), (Nat.le_of_ble_eq_true rfl)⟩ rfl rfl dX13_alone_341 rfl ⟨(Nat.le_of_ble_eq_true rfl), (Nat.le_of_ble_eq_true rfl)⟩ (Nat.le_of_ble_eq_true rfl) (by first | with_reducible assumption) rfl (m_tell G _ b nc np pl R hm p3 p4 sz ly vo mp X Y hb fs0 hq0 MY O MO o ho how d hd h60 h61 mc hmc h62 hMB h fs hm9 hl hE fr _ T (itM (cc 0) s).1 (itM (cc 0) s).2.1 (itM (cc 0) s).1 (itM (cc 0) s).2.2 (pg 0 : Int) (-1) ((itM (cc 0) s).2.2 - (itM (cc 0) s).2.1) (by omega) (by omega) a1 a2 a1 a3) (fun v9 h1 z1 hq9 => ?_)
          obtain ⟨rfl, rfl, fs1, u1, u2, u3, u4, T1⟩ := hq9
          refine v_sub (L' := [(3, _), (2, _), (1, _), (0, _)]) [1, 2, 3, 4] rfl ?_
          refine hk h1 fs1 u1 u2 u3 u4 ?_
          unfold aQe
          rw [rgm_s, ← List.append_assoc, show edR x3 (pg 0 : Int) (mc : Int) (fcM (twS (cc 0) (n 0)) (cc 0) s) (itM (cc 0) s) = [_] from if_pos hcon, if_pos hup]
          exact T1

set_option maxHeartbeats 4000000 in
set_option maxRecDepth 100000 in
theorem t_al245F (G : sv_G) (Qr : Option Value → sv_h → Nat → Prop) (z b nc np pl : Nat) (R : Nat → Bool) (hm p3 p4 sz : Nat → Nat) (ly vo : Nat → Int32) (mp : Nat → mvT) (X Y : Nat → Nat → Int) (hb : sv_h) (fs0 : List Value) (hq0 : mfq_ b nc np pl fs0) (MY : myl_ G hb b nc np pl R hm p3 p4 sz ly vo mp X Y) (O : List (List Nat × Nat)) (MO : moc_ G hb b O) (o : Nat) (ho : o < O.length) (how : ∀ i, i ∈ (O.getD o ([], 0)).1 → i < pl) (d : Nat) (hd : d ≤ (O.getD o ([], 0)).1.length) (h60 : fs0[60]? = some (.int (nI o))) (h61 : fs0[61]? = some (.int (nI d))) (mc : Nat) (hmc : mc < 100) (h62 : fs0[62]? = some (.int (nI mc))) (hMB : ∀ x y : Int, -200000 ≤ x ∧ x ≤ 200000 → -200000 ≤ y ∧ y ≤ 200000 → (-1000000000 ≤ (mvA (mvW mp ((O.getD o ([], 0)).1.take d)) (x, y)).1 ∧ (mvA (mvW mp ((O.getD o ([], 0)).1.take d)) (x, y)).1 ≤ 1000000000) ∧ (-1000000000 ≤ (mvA (mvW mp ((O.getD o ([], 0)).1.take d)) (x, y)).2 ∧ (mvA (mvW mp ((O.getD o ([], 0)).1.take d)) (x, y)).2 ≤ 1000000000)) (ri kd : Nat) (l1 l2 x3 x4 x5 x6 : Int32) (RU : mru_ G hb b ri kd l1 l2 x3 x4 x5 x6) (h58 : fs0[58]? = some (.int (nI ri))) (hen : x6 = -1 ∨ 0 ≤ x6) (n pg : Nat → Nat) (cc : Nat → Nat → Int × Int) (LD : mld_ G hb b 1 n pg cc) (LK : mlk_ 1 n pg cc) (s : Nat) (hs : s < n 0) (hcon : (itM (cc 0) s).2.2 - (itM (cc 0) s).2.1 < x3.toInt) (hup : ¬ upr (fcM (twS (cc 0) (n 0)) (cc 0) s) = true) (E0 : List (List Int64)) (hk : ∀ (h : sv_h) (fs : List Value), h (b + 220) = some (.inr (11, fs)) → fs.length = 71 → fsE [28, 29, 52, 53] fs0 fs → (∀ a, a ≠ b + 220 → a ≠ b + 241 → h a = hb a) → mT_ gu G h b fs ((E0 ++ aQe (mvW mp ((O.getD o ([], 0)).1.take d)) kd x3 (mc : Int) n pg cc (s + 1))) → V G mX13_alone (sv_MQ G mX13_alone Qr) 344 [(3, .int (nI s)), (2, .int (nI kd)), (1, .int (nI (pg 0))), (0, .ref (b + 220))] [] h z 0 0) (h : sv_h) (fs : List Value) (hm9 : h (b + 220) = some (.inr (11, fs))) (hl : fs.length = 71) (hE : fsE [28, 29, 52, 53] fs0 fs) (fr : (∀ a, a ≠ b + 220 → a ≠ b + 241 → h a = hb a)) (T : mT_ gu G h b fs (E0 ++ aQe (mvW mp ((O.getD o ([], 0)).1.take d)) kd x3 (mc : Int) n pg cc s)) : V G mX13_alone (sv_MQ G mX13_alone Qr) 245 [(4, .int 0), (3, .int (nI s)), (2, .int (nI kd)), (1, .int (nI (pg 0))), (0, .ref (b + 220))] [] h z 0 0 := by
  obtain ⟨k0, k1⟩ := id LK
  obtain ⟨r0, r1, ⟨j33, r33, r33a⟩, _, _, ⟨j36, r36, r36a⟩, _, _, _⟩ := id RU
  obtain ⟨fsd, fo, ft, ff, gx, gy, gp, gl, gh, d49, d50, d51, d52, d53, d54, d55, d56, d57, dd⟩ := id LD
  obtain ⟨⟨zv1, zv2⟩, pv, cv⟩ := k1 0 (by decide)
  obtain ⟨sv1, sv2, sv3, sv4, sv5⟩ := dd 0 (by decide)
  have hqf := hq0.to (S := [28, 29, 52, 53]) hl hE (by decide)
  have hlen : fs.length = 71 := hl
  have f_sides := hqf.f_sides
  have f_face := hqf.f_face
  have f_pos := hqf.f_pos
  have f_low := hqf.f_low
  have f_high := hqf.f_high
  have f_ofPolygon := hqf.f_ofPolygon
  have f_bound := hqf.f_bound
  have f_kind := hqf.f_kind
  have f_rule : fs[58]? = some (.int (nI ri)) := (hE 58 (by decide)).trans h58
  have w249 : ab_I G h (b + 249) 2 fsd := (fr _ (by omega) (by omega)).trans d49
  have w253 : ab_I G h (b + 253) 32 ff := (fr _ (by omega) (by omega)).trans d53
  have w254 : ab_J G h (b + 254) 32 gp := (fr _ (by omega) (by omega)).trans d54
  have w255 : ab_J G h (b + 255) 32 gl := (fr _ (by omega) (by omega)).trans d55
  have w256 : ab_J G h (b + 256) 32 gh := (fr _ (by omega) (by omega)).trans d56
  have w257 : ab_I G h (b + 257) 2 fo := (fr _ (by omega) (by omega)).trans d57
  have w236 : ab_J G h (b + 236) 40 j36 := (fr _ (by omega) (by omega)).trans r36
  have w233 : ab_I G h (b + 233) 40 j33 := (fr _ (by omega) (by omega)).trans r33
  have X3a := x3.le_toInt
  have X3b := x3.toInt_lt
  have q5 := sv5 s hs
  rw [Nat.mul_zero, Nat.zero_add] at q5
  obtain ⟨q1, q2, q3, q4⟩ := q5
  obtain ⟨a1, a2, a3⟩ := itM_b cv hs
  refine v_aload_n dX13_alone_245 rfl 4 rfl ?_
  refine v_iload dX13_alone_246 0 rfl ?_
  refine v_if_eq (tgt := 260) dX13_alone_248 (by decide) (fun c_248 => ?_) (fun c_248 => ?_)
  · refine v_aload_n dX13_alone_260 rfl 4 rfl ?_
    refine v_getf 49 (ci := 11) (C := RX13) (T := TX13) (N := 71) rfl iwX13_alone_X13 (Nat.le_of_ble_eq_true rfl) (by decide +kernel) dX13_alone_261 (by first | with_reducible assumption) (by repeat (first | with_reducible assumption | (with_reducible refine (sv_ls (by first | omega | (simp only [List.length_set]; omega))).trans ?_; exact rfl) | with_reducible refine (List.getElem?_set_ne (by decide)).trans ?_)) ?_
    refine v_iload_n dX13_alone_264 rfl 1 rfl ?_
    refine v_laldS (v := jN (itM (cc 0) s).2.1) dX13_alone_265 (by first | with_reducible assumption) (vp_in_nI (by omega) (by omega)) (by rw [nI_clamp (by omega)]; exact q3) ?_
    refine v_iload dX13_alone_266 0 rfl ?_
    refine v_if_eq (tgt := 280) dX13_alone_268 (by decide) (fun c_268 => ?_) (fun c_268 => ?_)
    · refine v_aload_n dX13_alone_280 rfl 4 rfl ?_
      refine v_getf 48 (ci := 11) (C := RX13) (T := TX13) (N := 71) rfl iwX13_alone_X13 (Nat.le_of_ble_eq_true rfl) (by decide +kernel) dX13_alone_281 (by first | with_reducible assumption) (by repeat (first | with_reducible assumption | (with_reducible refine (sv_ls (by first | omega | (simp only [List.length_set]; omega))).trans ?_; exact rfl) | with_reducible refine (List.getElem?_set_ne (by decide)).trans ?_)) ?_
      refine v_iload_n dX13_alone_284 rfl 1 rfl ?_
      refine v_laldS (v := jN (itM (cc 0) s).1) dX13_alone_285 (by first | with_reducible assumption) (vp_in_nI (by omega) (by omega)) (by rw [nI_clamp (by omega)]; exact q2) ?_
      refine v_iload dX13_alone_286 0 rfl ?_
      refine v_if_eq (tgt := 300) dX13_alone_288 (by decide) (fun c_288 => ?_) (fun c_288 => ?_)
      · refine v_aload_n dX13_alone_300 rfl 4 rfl ?_
        refine v_getf 50 (ci := 11) (C := RX13) (T := TX13) (N := 71) rfl iwX13_alone_X13 (Nat.le_of_ble_eq_true rfl) (by decide +kernel) dX13_alone_301 (by first | with_reducible assumption) (by repeat (first | with_reducible assumption | (with_reducible refine (sv_ls (by first | omega | (simp only [List.length_set]; omega))).trans ?_; exact rfl) | with_reducible refine (List.getElem?_set_ne (by decide)).trans ?_)) ?_
        refine v_iload_n dX13_alone_304 rfl 1 rfl ?_
        refine v_laldS (v := jN (itM (cc 0) s).2.2) dX13_alone_305 (by first | with_reducible assumption) (vp_in_nI (by omega) (by omega)) (by rw [nI_clamp (by omega)]; exact q4) ?_
        refine v_iload dX13_alone_306 0 rfl ?_
        refine v_if_eq (tgt := 320) dX13_alone_308 (by decide) (fun c_308 => ?_) (fun c_308 => ?_)
        · refine v_aload_n dX13_alone_320 rfl 4 rfl ?_
          refine v_getf 48 (ci := 11) (C := RX13) (T := TX13) (N := 71) rfl iwX13_alone_X13 (Nat.le_of_ble_eq_true rfl) (by decide +kernel) dX13_alone_321 (by first | with_reducible assumption) (by repeat (first | with_reducible assumption | (with_reducible refine (sv_ls (by first | omega | (simp only [List.length_set]; omega))).trans ?_; exact rfl) | with_reducible refine (List.getElem?_set_ne (by decide)).trans ?_)) ?_
          refine v_iload_n dX13_alone_324 rfl 1 rfl ?_
          refine v_laldS (v := jN (itM (cc 0) s).1) dX13_alone_325 (by first | with_reducible assumption) (vp_in_nI (by omega) (by omega)) (by rw [nI_clamp (by omega)]; exact q2) ?_
          refine v_iload_n dX13_alone_326 rfl 3 rfl ?_
          refine v_iconst (v := (-1)) dX13_alone_327 (by decide) ?_
          refine v_aload_n dX13_alone_328 rfl 4 rfl ?_
          refine v_getf 50 (ci := 11) (C := RX13) (T := TX13) (N := 71) rfl iwX13_alone_X13 (Nat.le_of_ble_eq_true rfl) (by decide +kernel) dX13_alone_329 (by first | with_reducible assumption) (by repeat (first | with_reducible assumption | (with_reducible refine (sv_ls (by first | omega | (simp only [List.length_set]; omega))).trans ?_; exact rfl) | with_reducible refine (List.getElem?_set_ne (by decide)).trans ?_)) ?_
          refine v_iload_n dX13_alone_332 rfl 1 rfl ?_
          refine v_laldS (v := jN (itM (cc 0) s).2.2) dX13_alone_333 (by first | with_reducible assumption) (vp_in_nI (by omega) (by omega)) (by rw [nI_clamp (by omega)]; exact q4) ?_
          refine v_aload_n dX13_alone_334 rfl 4 rfl ?_
          refine v_getf 49 (ci := 11) (C := RX13) (T := TX13) (N := 71) rfl iwX13_alone_X13 (Nat.le_of_ble_eq_true rfl) (by decide +kernel) dX13_alone_335 (by first | with_reducible assumption) (by repeat (first | with_reducible assumption | (with_reducible refine (sv_ls (by first | omega | (simp only [List.length_set]; omega))).trans ?_; exact rfl) | with_reducible refine (List.getElem?_set_ne (by decide)).trans ?_)) ?_
          refine v_iload_n dX13_alone_338 rfl 1 rfl ?_
          refine v_laldS (v := jN (itM (cc 0) s).2.1) dX13_alone_339 (by first | with_reducible assumption) (vp_in_nI (by omega) (by omega)) (by rw [nI_clamp (by omega)]; exact q3) ?_
          refine v_lsub dX13_alone_340 ?_
          rw [← jN_sub]
          refine v_callVq (M' := mX13_tell) (n := 7) (As := [_, _, _, _, _, _, _]) (ci := 11) (r := (RX13, TX13, 71)) gX13_alone_X13_tell rfl (by decide +kernel) ⟨(Nat.le_of_ble_eq_true rfl), (Nat.le_of_ble_eq_true rfl)⟩ rfl rfl dX13_alone_341 rfl ⟨(Nat.le_of_ble_eq_true rfl), (Nat.le_of_ble_eq_true rfl)⟩ (Nat.le_of_ble_eq_true rfl) (by first | with_reducible assumption) rfl (m_tell G _ b nc np pl R hm p3 p4 sz ly vo mp X Y hb fs0 hq0 MY O MO o ho how d hd h60 h61 mc hmc h62 hMB h fs hm9 hl hE fr _ T (itM (cc 0) s).2.1 (itM (cc 0) s).1 (itM (cc 0) s).2.2 (itM (cc 0) s).1 (pg 0 : Int) (-1) ((itM (cc 0) s).2.2 - (itM (cc 0) s).2.1) (by omega) (by omega) a2 a1 a3 a1) (fun v9 h1 z1 hq9 => ?_)
          obtain ⟨rfl, rfl, fs1, u1, u2, u3, u4, T1⟩ := hq9
          refine v_sub (L' := [(3, _), (2, _), (1, _), (0, _)]) [1, 2, 3, 4] rfl ?_
          refine hk h1 fs1 u1 u2 u3 u4 ?_
          unfold aQe
          rw [rgm_s, ← List.append_assoc, show edR x3 (pg 0 : Int) (mc : Int) (fcM (twS (cc 0) (n 0)) (cc 0) s) (itM (cc 0) s) = [_] from if_pos hcon, if_neg hup]
          exact T1
        · exact absurd rfl c_308
      · exact absurd rfl c_288
    · exact absurd rfl c_268
  · exact absurd rfl c_248

set_option maxHeartbeats 4000000 in
set_option maxRecDepth 100000 in
theorem l_alE (G : sv_G) (Qr : Option Value → sv_h → Nat → Prop) (z b nc np pl : Nat) (R : Nat → Bool) (hm p3 p4 sz : Nat → Nat) (ly vo : Nat → Int32) (mp : Nat → mvT) (X Y : Nat → Nat → Int) (hb : sv_h) (fs0 : List Value) (hq0 : mfq_ b nc np pl fs0) (MY : myl_ G hb b nc np pl R hm p3 p4 sz ly vo mp X Y) (O : List (List Nat × Nat)) (MO : moc_ G hb b O) (o : Nat) (ho : o < O.length) (how : ∀ i, i ∈ (O.getD o ([], 0)).1 → i < pl) (d : Nat) (hd : d ≤ (O.getD o ([], 0)).1.length) (h60 : fs0[60]? = some (.int (nI o))) (h61 : fs0[61]? = some (.int (nI d))) (mc : Nat) (hmc : mc < 100) (h62 : fs0[62]? = some (.int (nI mc))) (hMB : ∀ x y : Int, -200000 ≤ x ∧ x ≤ 200000 → -200000 ≤ y ∧ y ≤ 200000 → (-1000000000 ≤ (mvA (mvW mp ((O.getD o ([], 0)).1.take d)) (x, y)).1 ∧ (mvA (mvW mp ((O.getD o ([], 0)).1.take d)) (x, y)).1 ≤ 1000000000) ∧ (-1000000000 ≤ (mvA (mvW mp ((O.getD o ([], 0)).1.take d)) (x, y)).2 ∧ (mvA (mvW mp ((O.getD o ([], 0)).1.take d)) (x, y)).2 ≤ 1000000000)) (ri kd : Nat) (l1 l2 x3 x4 x5 x6 : Int32) (RU : mru_ G hb b ri kd l1 l2 x3 x4 x5 x6) (h58 : fs0[58]? = some (.int (nI ri))) (hen : x6 = -1 ∨ 0 ≤ x6) (n pg : Nat → Nat) (cc : Nat → Nat → Int × Int) (LD : mld_ G hb b 1 n pg cc) (LK : mlk_ 1 n pg cc) (hk3 : kd = 3) (E0 : List (List Int64)) (hk : ∀ (h : sv_h) (fs : List Value), h (b + 220) = some (.inr (11, fs)) → fs.length = 71 → fsE [28, 29, 52, 53] fs0 fs → (∀ a, a ≠ b + 220 → a ≠ b + 241 → h a = hb a) → mT_ gu G h b fs ((E0 ++ aQe (mvW mp ((O.getD o ([], 0)).1.take d)) kd x3 (mc : Int) n pg cc (n 0))) → Qr none h z) : ∀ (e s : Nat) (h : sv_h) (fs : List Value), s + e = n 0 → h (b + 220) = some (.inr (11, fs)) → fs.length = 71 → fsE [28, 29, 52, 53] fs0 fs → (∀ a, a ≠ b + 220 → a ≠ b + 241 → h a = hb a) → mT_ gu G h b fs ((E0 ++ aQe (mvW mp ((O.getD o ([], 0)).1.take d)) kd x3 (mc : Int) n pg cc s)) → V G mX13_alone (sv_MQ G mX13_alone Qr) 186 [(3, .int (nI s)), (2, .int (nI kd)), (1, .int (nI (pg 0))), (0, .ref (b + 220))] [] h z 0 0 := by
  intro e
  induction e with
  | zero =>
    intro s h fs hse hm9 hl hE fr T
    obtain ⟨k0, k1⟩ := id LK
    obtain ⟨r0, r1, ⟨j33, r33, r33a⟩, _, _, ⟨j36, r36, r36a⟩, _, _, _⟩ := id RU
    obtain ⟨fsd, fo, ft, ff, gx, gy, gp, gl, gh, d49, d50, d51, d52, d53, d54, d55, d56, d57, dd⟩ := id LD
    obtain ⟨⟨zv1, zv2⟩, pv, cv⟩ := k1 0 (by decide)
    obtain ⟨sv1, sv2, sv3, sv4, sv5⟩ := dd 0 (by decide)
    have hqf := hq0.to (S := [28, 29, 52, 53]) hl hE (by decide)
    have hlen : fs.length = 71 := hl
    have f_sides := hqf.f_sides
    have f_face := hqf.f_face
    have f_pos := hqf.f_pos
    have f_low := hqf.f_low
    have f_high := hqf.f_high
    have f_ofPolygon := hqf.f_ofPolygon
    have f_bound := hqf.f_bound
    have f_kind := hqf.f_kind
    have f_rule : fs[58]? = some (.int (nI ri)) := (hE 58 (by decide)).trans h58
    have w249 : ab_I G h (b + 249) 2 fsd := (fr _ (by omega) (by omega)).trans d49
    have w253 : ab_I G h (b + 253) 32 ff := (fr _ (by omega) (by omega)).trans d53
    have w254 : ab_J G h (b + 254) 32 gp := (fr _ (by omega) (by omega)).trans d54
    have w255 : ab_J G h (b + 255) 32 gl := (fr _ (by omega) (by omega)).trans d55
    have w256 : ab_J G h (b + 256) 32 gh := (fr _ (by omega) (by omega)).trans d56
    have w257 : ab_I G h (b + 257) 2 fo := (fr _ (by omega) (by omega)).trans d57
    have w236 : ab_J G h (b + 236) 40 j36 := (fr _ (by omega) (by omega)).trans r36
    have w233 : ab_I G h (b + 233) 40 j33 := (fr _ (by omega) (by omega)).trans r33
    have X3a := x3.le_toInt
    have X3b := x3.toInt_lt
    have e9 : s = n 0 := by omega
    subst e9
    refine v_iload_n dX13_alone_186 rfl 0 rfl ?_
    refine v_aload_n dX13_alone_187 rfl 3 rfl ?_
    refine v_getf 43 (ci := 11) (C := RX13) (T := TX13) (N := 71) rfl iwX13_alone_X13 (Nat.le_of_ble_eq_true rfl) (by decide +kernel) dX13_alone_188 (by first | with_reducible assumption) (by repeat (first | with_reducible assumption | (with_reducible refine (sv_ls (by first | omega | (simp only [List.length_set]; omega))).trans ?_; exact rfl) | with_reducible refine (List.getElem?_set_ne (by decide)).trans ?_)) ?_
    refine v_iconst (v := 0) dX13_alone_191 (by decide) ?_
    refine v_ialdS (v := nI (n 0)) dX13_alone_192 (by first | with_reducible assumption) (vp_in_nI (n := 0) (by omega) (by omega)) (by exact sv1) ?_
    refine v_icmp_ge (tgt := 350) dX13_alone_193 (by decide) (fun c_193 => ?_) (fun c_193 => ?_)
    · exact v_ret rfl dX13_alone_350 (Nat.le_of_ble_eq_true rfl) (Nat.le_of_ble_eq_true rfl) (hk h fs hm9 hl hE fr T)
    · exact absurd (nI_le (Nat.le_refl _) (by omega)) c_193
  | succ e ih =>
    intro s h fs hse hm9 hl hE fr T
    obtain ⟨k0, k1⟩ := id LK
    obtain ⟨r0, r1, ⟨j33, r33, r33a⟩, _, _, ⟨j36, r36, r36a⟩, _, _, _⟩ := id RU
    obtain ⟨fsd, fo, ft, ff, gx, gy, gp, gl, gh, d49, d50, d51, d52, d53, d54, d55, d56, d57, dd⟩ := id LD
    obtain ⟨⟨zv1, zv2⟩, pv, cv⟩ := k1 0 (by decide)
    obtain ⟨sv1, sv2, sv3, sv4, sv5⟩ := dd 0 (by decide)
    have hqf := hq0.to (S := [28, 29, 52, 53]) hl hE (by decide)
    have hlen : fs.length = 71 := hl
    have f_sides := hqf.f_sides
    have f_face := hqf.f_face
    have f_pos := hqf.f_pos
    have f_low := hqf.f_low
    have f_high := hqf.f_high
    have f_ofPolygon := hqf.f_ofPolygon
    have f_bound := hqf.f_bound
    have f_kind := hqf.f_kind
    have f_rule : fs[58]? = some (.int (nI ri)) := (hE 58 (by decide)).trans h58
    have w249 : ab_I G h (b + 249) 2 fsd := (fr _ (by omega) (by omega)).trans d49
    have w253 : ab_I G h (b + 253) 32 ff := (fr _ (by omega) (by omega)).trans d53
    have w254 : ab_J G h (b + 254) 32 gp := (fr _ (by omega) (by omega)).trans d54
    have w255 : ab_J G h (b + 255) 32 gl := (fr _ (by omega) (by omega)).trans d55
    have w256 : ab_J G h (b + 256) 32 gh := (fr _ (by omega) (by omega)).trans d56
    have w257 : ab_I G h (b + 257) 2 fo := (fr _ (by omega) (by omega)).trans d57
    have w236 : ab_J G h (b + 236) 40 j36 := (fr _ (by omega) (by omega)).trans r36
    have w233 : ab_I G h (b + 233) 40 j33 := (fr _ (by omega) (by omega)).trans r33
    have X3a := x3.le_toInt
    have X3b := x3.toInt_lt
    have hs : s < n 0 := by omega
    have q5 := sv5 s hs
    rw [Nat.mul_zero, Nat.zero_add] at q5
    obtain ⟨q1, q2, q3, q4⟩ := q5
    obtain ⟨a1, a2, a3⟩ := itM_b cv hs
    have hkk : ∀ (h : sv_h) (fs : List Value), h (b + 220) = some (.inr (11, fs)) → fs.length = 71 → fsE [28, 29, 52, 53] fs0 fs → (∀ a, a ≠ b + 220 → a ≠ b + 241 → h a = hb a) → mT_ gu G h b fs ((E0 ++ aQe (mvW mp ((O.getD o ([], 0)).1.take d)) kd x3 (mc : Int) n pg cc (s + 1))) → V G mX13_alone (sv_MQ G mX13_alone Qr) 344 [(3, .int (nI s)), (2, .int (nI kd)), (1, .int (nI (pg 0))), (0, .ref (b + 220))] [] h z 0 0 := (by
      intro h2 fs2 v1 v2 v3 v4 v5
      refine v_iinc (j := 0) (L' := [(3, _), (2, _), (1, _), (0, _)]) (v := nI (s + 1)) dX13_alone_344 rfl (nI_1 _) (Nat.le_of_ble_eq_true rfl) rfl ?_
      refine v_goto (tgt := 186) dX13_alone_347 (by decide) ?_
      refine v_sub (L' := [(3, _), (2, _), (1, _), (0, _)]) [0, 1, 2, 3] rfl ?_
      exact ih (s + 1) h2 fs2 (by omega) v1 v2 v3 v4 v5)
    refine v_iload_n dX13_alone_186 rfl 0 rfl ?_
    refine v_aload_n dX13_alone_187 rfl 3 rfl ?_
    refine v_getf 43 (ci := 11) (C := RX13) (T := TX13) (N := 71) rfl iwX13_alone_X13 (Nat.le_of_ble_eq_true rfl) (by decide +kernel) dX13_alone_188 (by first | with_reducible assumption) (by repeat (first | with_reducible assumption | (with_reducible refine (sv_ls (by first | omega | (simp only [List.length_set]; omega))).trans ?_; exact rfl) | with_reducible refine (List.getElem?_set_ne (by decide)).trans ?_)) ?_
    refine v_iconst (v := 0) dX13_alone_191 (by decide) ?_
    refine v_ialdS (v := nI (n 0)) dX13_alone_192 (by first | with_reducible assumption) (vp_in_nI (n := 0) (by omega) (by omega)) (by exact sv1) ?_
    refine v_icmp_ge (tgt := 350) dX13_alone_193 (by decide) (fun c_193 => ?_) (fun c_193 => ?_)
    · exact absurd c_193 (nI_ge hs (by omega))
    · refine v_iload_n dX13_alone_196 rfl 1 rfl ?_
      refine v_iconst (v := 3) dX13_alone_197 (by decide) ?_
      refine v_icmp_ne (tgt := 350) dX13_alone_198 (by decide) (fun c_198 => ?_) (fun c_198 => ?_)
      · exact absurd (show nI kd = 3 from by rw [hk3]; rfl) c_198
      · refine v_aload_n dX13_alone_201 rfl 3 rfl ?_
        refine v_getf 50 (ci := 11) (C := RX13) (T := TX13) (N := 71) rfl iwX13_alone_X13 (Nat.le_of_ble_eq_true rfl) (by decide +kernel) dX13_alone_202 (by first | with_reducible assumption) (by repeat (first | with_reducible assumption | (with_reducible refine (sv_ls (by first | omega | (simp only [List.length_set]; omega))).trans ?_; exact rfl) | with_reducible refine (List.getElem?_set_ne (by decide)).trans ?_)) ?_
        refine v_iload_n dX13_alone_205 rfl 0 rfl ?_
        refine v_laldS (v := jN (itM (cc 0) s).2.2) dX13_alone_206 (by first | with_reducible assumption) (vp_in_nI (by omega) (by omega)) (by rw [nI_clamp (by omega)]; exact q4) ?_
        refine v_aload_n dX13_alone_207 rfl 3 rfl ?_
        refine v_getf 49 (ci := 11) (C := RX13) (T := TX13) (N := 71) rfl iwX13_alone_X13 (Nat.le_of_ble_eq_true rfl) (by decide +kernel) dX13_alone_208 (by first | with_reducible assumption) (by repeat (first | with_reducible assumption | (with_reducible refine (sv_ls (by first | omega | (simp only [List.length_set]; omega))).trans ?_; exact rfl) | with_reducible refine (List.getElem?_set_ne (by decide)).trans ?_)) ?_
        refine v_iload_n dX13_alone_211 rfl 0 rfl ?_
        refine v_laldS (v := jN (itM (cc 0) s).2.1) dX13_alone_212 (by first | with_reducible assumption) (vp_in_nI (by omega) (by omega)) (by rw [nI_clamp (by omega)]; exact q3) ?_
        refine v_lsub dX13_alone_213 ?_
        rw [← jN_sub]
        refine v_aload_n dX13_alone_214 rfl 3 rfl ?_
        refine v_getf 22 (ci := 11) (C := RX13) (T := TX13) (N := 71) rfl iwX13_alone_X13 (Nat.le_of_ble_eq_true rfl) (by decide +kernel) dX13_alone_215 (by first | with_reducible assumption) (by repeat (first | with_reducible assumption | (with_reducible refine (sv_ls (by first | omega | (simp only [List.length_set]; omega))).trans ?_; exact rfl) | with_reducible refine (List.getElem?_set_ne (by decide)).trans ?_)) ?_
        refine v_aload_n dX13_alone_218 rfl 3 rfl ?_
        refine v_getf 58 (ci := 11) (C := RX13) (T := TX13) (N := 71) rfl iwX13_alone_X13 (Nat.le_of_ble_eq_true rfl) (by decide +kernel) dX13_alone_219 (by first | with_reducible assumption) (by repeat (first | with_reducible assumption | (with_reducible refine (sv_ls (by first | omega | (simp only [List.length_set]; omega))).trans ?_; exact rfl) | with_reducible refine (List.getElem?_set_ne (by decide)).trans ?_)) ?_
        refine v_laldS (v := jN x3.toInt) dX13_alone_222 (by first | with_reducible assumption) (vp_in_nI (by omega) (by omega)) (by rw [nI_clamp (by omega)]; exact r36a) ?_
        refine v_lcmp_ge (tgt := 344) dX13_alone_223 dX13_alone_224 (by decide) (fun c_224 => ?_) (fun c_224 => ?_)
        · refine v_iinc (j := 0) (L' := [(3, _), (2, _), (1, _), (0, _)]) (v := nI (s + 1)) dX13_alone_344 rfl (nI_1 _) (Nat.le_of_ble_eq_true rfl) rfl ?_
          refine v_goto (tgt := 186) dX13_alone_347 (by decide) ?_
          refine v_sub (L' := [(3, _), (2, _), (1, _), (0, _)]) [0, 1, 2, 3] rfl ?_
          refine ih (s + 1) h fs (by omega) hm9 hl hE fr ?_
          unfold aQe
          rw [rgm_s, show edR x3 (pg 0 : Int) (mc : Int) (fcM (twS (cc 0) (n 0)) (cc 0) s) (itM (cc 0) s) = [] from if_neg (fun e9 => absurd ((jN_lt (by omega) (by omega) (by omega) (by omega)).mpr e9) (Int64.not_lt.mpr c_224)), List.map_nil, List.append_nil]
          exact T
        · refine v_aload_n dX13_alone_227 rfl 3 rfl ?_
          refine v_getf 47 (ci := 11) (C := RX13) (T := TX13) (N := 71) rfl iwX13_alone_X13 (Nat.le_of_ble_eq_true rfl) (by decide +kernel) dX13_alone_228 (by first | with_reducible assumption) (by repeat (first | with_reducible assumption | (with_reducible refine (sv_ls (by first | omega | (simp only [List.length_set]; omega))).trans ?_; exact rfl) | with_reducible refine (List.getElem?_set_ne (by decide)).trans ?_)) ?_
          refine v_iload_n dX13_alone_231 rfl 0 rfl ?_
          refine v_ialdS (v := nI (fcM (twS (cc 0) (n 0)) (cc 0) s)) dX13_alone_232 (by first | with_reducible assumption) (vp_in_nI (by omega) (by omega)) (by rw [nI_clamp (by omega)]; exact q1) ?_
          refine v_iconst (v := 2) dX13_alone_233 (by decide) ?_
          refine v_irem dX13_alone_234 (by decide) ?_
          rw [fv_rem _ (fcM_4 _ _ _)]
          refine v_if_ne (tgt := 242) dX13_alone_235 (by decide) (fun c_235 => ?_) (fun c_235 => ?_)
          · refine v_iconst (v := 0) dX13_alone_242 (by decide) ?_
            refine v_istore (L' := [(4, _), (3, _), (2, _), (1, _), (0, _)]) dX13_alone_243 (Nat.le_of_ble_eq_true rfl) rfl ?_
            refine v_sub (L' := [(4, _), (3, _), (2, _), (1, _), (0, _)]) [0, 1, 2, 3, 4] rfl ?_
            have hcon : (itM (cc 0) s).2.2 - (itM (cc 0) s).2.1 < x3.toInt := (jN_lt (by omega) (by omega) (by omega) (by omega)).mp (Int64.not_le.mp c_224)
            first
              | exact t_al245T G _ _ b nc np pl R hm p3 p4 sz ly vo mp X Y hb fs0 hq0 MY O MO o ho how d hd h60 h61 mc hmc h62 hMB ri kd l1 l2 x3 x4 x5 x6 RU h58 hen n pg cc LD LK s hs hcon ((upr_2 _ (fcM_4 _ _ _)).trans (decide_eq_true c_235)) E0 hkk h fs hm9 hl hE fr T
              | exact t_al245F G _ _ b nc np pl R hm p3 p4 sz ly vo mp X Y hb fs0 hq0 MY O MO o ho how d hd h60 h61 mc hmc h62 hMB ri kd l1 l2 x3 x4 x5 x6 RU h58 hen n pg cc LD LK s hs hcon (fun e9 => c_235 (of_decide_eq_true ((upr_2 _ (fcM_4 _ _ _)).symm.trans e9))) E0 hkk h fs hm9 hl hE fr T
          · refine v_iconst (v := 1) dX13_alone_238 (by decide) ?_
            refine v_goto (tgt := 243) dX13_alone_239 (by decide) ?_
            refine v_istore (L' := [(4, _), (3, _), (2, _), (1, _), (0, _)]) dX13_alone_243 (Nat.le_of_ble_eq_true rfl) rfl ?_
            refine v_sub (L' := [(4, _), (3, _), (2, _), (1, _), (0, _)]) [0, 1, 2, 3, 4] rfl ?_
            have hcon : (itM (cc 0) s).2.2 - (itM (cc 0) s).2.1 < x3.toInt := (jN_lt (by omega) (by omega) (by omega) (by omega)).mp (Int64.not_le.mp c_224)
            first
              | exact t_al245T G _ _ b nc np pl R hm p3 p4 sz ly vo mp X Y hb fs0 hq0 MY O MO o ho how d hd h60 h61 mc hmc h62 hMB ri kd l1 l2 x3 x4 x5 x6 RU h58 hen n pg cc LD LK s hs hcon ((upr_2 _ (fcM_4 _ _ _)).trans (decide_eq_true c_235)) E0 hkk h fs hm9 hl hE fr T
              | exact t_al245F G _ _ b nc np pl R hm p3 p4 sz ly vo mp X Y hb fs0 hq0 MY O MO o ho how d hd h60 h61 mc hmc h62 hMB ri kd l1 l2 x3 x4 x5 x6 RU h58 hen n pg cc LD LK s hs hcon (fun e9 => c_235 (of_decide_eq_true ((upr_2 _ (fcM_4 _ _ _)).symm.trans e9))) E0 hkk h fs hm9 hl hE fr T

set_option maxHeartbeats 4000000 in
set_option maxRecDepth 100000 in
theorem t_al186 (G : sv_G) (Qr : Option Value → sv_h → Nat → Prop) (z b nc np pl : Nat) (R : Nat → Bool) (hm p3 p4 sz : Nat → Nat) (ly vo : Nat → Int32) (mp : Nat → mvT) (X Y : Nat → Nat → Int) (hb : sv_h) (fs0 : List Value) (hq0 : mfq_ b nc np pl fs0) (MY : myl_ G hb b nc np pl R hm p3 p4 sz ly vo mp X Y) (O : List (List Nat × Nat)) (MO : moc_ G hb b O) (o : Nat) (ho : o < O.length) (how : ∀ i, i ∈ (O.getD o ([], 0)).1 → i < pl) (d : Nat) (hd : d ≤ (O.getD o ([], 0)).1.length) (h60 : fs0[60]? = some (.int (nI o))) (h61 : fs0[61]? = some (.int (nI d))) (mc : Nat) (hmc : mc < 100) (h62 : fs0[62]? = some (.int (nI mc))) (hMB : ∀ x y : Int, -200000 ≤ x ∧ x ≤ 200000 → -200000 ≤ y ∧ y ≤ 200000 → (-1000000000 ≤ (mvA (mvW mp ((O.getD o ([], 0)).1.take d)) (x, y)).1 ∧ (mvA (mvW mp ((O.getD o ([], 0)).1.take d)) (x, y)).1 ≤ 1000000000) ∧ (-1000000000 ≤ (mvA (mvW mp ((O.getD o ([], 0)).1.take d)) (x, y)).2 ∧ (mvA (mvW mp ((O.getD o ([], 0)).1.take d)) (x, y)).2 ≤ 1000000000)) (ri kd : Nat) (l1 l2 x3 x4 x5 x6 : Int32) (RU : mru_ G hb b ri kd l1 l2 x3 x4 x5 x6) (h58 : fs0[58]? = some (.int (nI ri))) (hen : x6 = -1 ∨ 0 ≤ x6) (n pg : Nat → Nat) (cc : Nat → Nat → Int × Int) (LD : mld_ G hb b 1 n pg cc) (LK : mlk_ 1 n pg cc) (hk3 : ¬ kd = 3) (h : sv_h) (fs : List Value) (hm9 : h (b + 220) = some (.inr (11, fs))) (hl : fs.length = 71) (hE : fsE [28, 29, 52, 53] fs0 fs) (fr : (∀ a, a ≠ b + 220 → a ≠ b + 241 → h a = hb a)) (hk : Qr none h z) : V G mX13_alone (sv_MQ G mX13_alone Qr) 186 [(3, .int (nI 0)), (2, .int (nI kd)), (1, .int (nI (pg 0))), (0, .ref (b + 220))] [] h z 0 0 := by
  obtain ⟨k0, k1⟩ := id LK
  obtain ⟨r0, r1, ⟨j33, r33, r33a⟩, _, _, ⟨j36, r36, r36a⟩, _, _, _⟩ := id RU
  obtain ⟨fsd, fo, ft, ff, gx, gy, gp, gl, gh, d49, d50, d51, d52, d53, d54, d55, d56, d57, dd⟩ := id LD
  obtain ⟨⟨zv1, zv2⟩, pv, cv⟩ := k1 0 (by decide)
  obtain ⟨sv1, sv2, sv3, sv4, sv5⟩ := dd 0 (by decide)
  have hqf := hq0.to (S := [28, 29, 52, 53]) hl hE (by decide)
  have hlen : fs.length = 71 := hl
  have f_sides := hqf.f_sides
  have f_face := hqf.f_face
  have f_pos := hqf.f_pos
  have f_low := hqf.f_low
  have f_high := hqf.f_high
  have f_ofPolygon := hqf.f_ofPolygon
  have f_bound := hqf.f_bound
  have f_kind := hqf.f_kind
  have f_rule : fs[58]? = some (.int (nI ri)) := (hE 58 (by decide)).trans h58
  have w249 : ab_I G h (b + 249) 2 fsd := (fr _ (by omega) (by omega)).trans d49
  have w253 : ab_I G h (b + 253) 32 ff := (fr _ (by omega) (by omega)).trans d53
  have w254 : ab_J G h (b + 254) 32 gp := (fr _ (by omega) (by omega)).trans d54
  have w255 : ab_J G h (b + 255) 32 gl := (fr _ (by omega) (by omega)).trans d55
  have w256 : ab_J G h (b + 256) 32 gh := (fr _ (by omega) (by omega)).trans d56
  have w257 : ab_I G h (b + 257) 2 fo := (fr _ (by omega) (by omega)).trans d57
  have w236 : ab_J G h (b + 236) 40 j36 := (fr _ (by omega) (by omega)).trans r36
  have w233 : ab_I G h (b + 233) 40 j33 := (fr _ (by omega) (by omega)).trans r33
  have X3a := x3.le_toInt
  have X3b := x3.toInt_lt
  refine v_iload_n dX13_alone_186 rfl 0 rfl ?_
  refine v_aload_n dX13_alone_187 rfl 3 rfl ?_
  refine v_getf 43 (ci := 11) (C := RX13) (T := TX13) (N := 71) rfl iwX13_alone_X13 (Nat.le_of_ble_eq_true rfl) (by decide +kernel) dX13_alone_188 (by first | with_reducible assumption) (by repeat (first | with_reducible assumption | (with_reducible refine (sv_ls (by first | omega | (simp only [List.length_set]; omega))).trans ?_; exact rfl) | with_reducible refine (List.getElem?_set_ne (by decide)).trans ?_)) ?_
  refine v_iconst (v := 0) dX13_alone_191 (by decide) ?_
  refine v_ialdS (v := nI (n 0)) dX13_alone_192 (by first | with_reducible assumption) (vp_in_nI (n := 0) (by omega) (by omega)) (by exact sv1) ?_
  refine v_icmp_ge (tgt := 350) dX13_alone_193 (by decide) (fun c_193 => ?_) (fun c_193 => ?_)
  · exact absurd c_193 (nI_ge (a := 0) (b := n 0) (by omega) (by omega))
  · refine v_iload_n dX13_alone_196 rfl 1 rfl ?_
    refine v_iconst (v := 3) dX13_alone_197 (by decide) ?_
    refine v_icmp_ne (tgt := 350) dX13_alone_198 (by decide) (fun c_198 => ?_) (fun c_198 => ?_)
    · exact v_ret rfl dX13_alone_350 (Nat.le_of_ble_eq_true rfl) (Nat.le_of_ble_eq_true rfl) hk
    · exact absurd (nI_11 kd r1 3 (by decide) c_198) hk3

set_option maxHeartbeats 4000000 in
set_option maxRecDepth 100000 in
theorem t_al184 (G : sv_G) (Qr : Option Value → sv_h → Nat → Prop) (z b nc np pl : Nat) (R : Nat → Bool) (hm p3 p4 sz : Nat → Nat) (ly vo : Nat → Int32) (mp : Nat → mvT) (X Y : Nat → Nat → Int) (hb : sv_h) (fs0 : List Value) (hq0 : mfq_ b nc np pl fs0) (MY : myl_ G hb b nc np pl R hm p3 p4 sz ly vo mp X Y) (O : List (List Nat × Nat)) (MO : moc_ G hb b O) (o : Nat) (ho : o < O.length) (how : ∀ i, i ∈ (O.getD o ([], 0)).1 → i < pl) (d : Nat) (hd : d ≤ (O.getD o ([], 0)).1.length) (h60 : fs0[60]? = some (.int (nI o))) (h61 : fs0[61]? = some (.int (nI d))) (mc : Nat) (hmc : mc < 100) (h62 : fs0[62]? = some (.int (nI mc))) (hMB : ∀ x y : Int, -200000 ≤ x ∧ x ≤ 200000 → -200000 ≤ y ∧ y ≤ 200000 → (-1000000000 ≤ (mvA (mvW mp ((O.getD o ([], 0)).1.take d)) (x, y)).1 ∧ (mvA (mvW mp ((O.getD o ([], 0)).1.take d)) (x, y)).1 ≤ 1000000000) ∧ (-1000000000 ≤ (mvA (mvW mp ((O.getD o ([], 0)).1.take d)) (x, y)).2 ∧ (mvA (mvW mp ((O.getD o ([], 0)).1.take d)) (x, y)).2 ≤ 1000000000)) (ri kd : Nat) (l1 l2 x3 x4 x5 x6 : Int32) (RU : mru_ G hb b ri kd l1 l2 x3 x4 x5 x6) (h58 : fs0[58]? = some (.int (nI ri))) (hen : x6 = -1 ∨ 0 ≤ x6) (n pg : Nat → Nat) (cc : Nat → Nat → Int × Int) (LD : mld_ G hb b 1 n pg cc) (LK : mlk_ 1 n pg cc) (E0 : List (List Int64)) (hk : ∀ (h : sv_h) (fs : List Value), h (b + 220) = some (.inr (11, fs)) → fs.length = 71 → fsE [28, 29, 52, 53] fs0 fs → (∀ a, a ≠ b + 220 → a ≠ b + 241 → h a = hb a) → mT_ gu G h b fs (E0 ++ (if kd = 3 then aQe (mvW mp ((O.getD o ([], 0)).1.take d)) kd x3 (mc : Int) n pg cc (n 0) else [])) → Qr none h z) (h : sv_h) (fs : List Value) (hm9 : h (b + 220) = some (.inr (11, fs))) (hl : fs.length = 71) (hE : fsE [28, 29, 52, 53] fs0 fs) (fr : (∀ a, a ≠ b + 220 → a ≠ b + 241 → h a = hb a)) (T : mT_ gu G h b fs E0) : V G mX13_alone (sv_MQ G mX13_alone Qr) 184 [(2, .int (nI kd)), (1, .int (nI (pg 0))), (0, .ref (b + 220))] [] h z 0 0 := by
  refine v_iconst (v := 0) dX13_alone_184 (by decide) ?_
  refine v_istore_n (L' := [(3, _), (2, _), (1, _), (0, _)]) dX13_alone_185 rfl (Nat.le_of_ble_eq_true rfl) rfl ?_
  refine v_sub (L' := [(3, _), (2, _), (1, _), (0, _)]) [0, 1, 2, 3] rfl ?_
  by_cases h3 : kd = 3
  · refine l_alE G _ _ b nc np pl R hm p3 p4 sz ly vo mp X Y hb fs0 hq0 MY O MO o ho how d hd h60 h61 mc hmc h62 hMB ri kd l1 l2 x3 x4 x5 x6 RU h58 hen n pg cc LD LK h3 E0 (fun h2 fs2 v1 v2 v3 v4 v5 => hk h2 fs2 v1 v2 v3 v4 (by rw [if_pos h3]; exact v5)) (n 0) 0 h fs (Nat.zero_add _) hm9 hl hE fr ?_
    rw [show aQe (mvW mp ((O.getD o ([], 0)).1.take d)) kd x3 (mc : Int) n pg cc 0 = [] from rfl, List.append_nil]
    exact T
  · exact t_al186 G _ _ b nc np pl R hm p3 p4 sz ly vo mp X Y hb fs0 hq0 MY O MO o ho how d hd h60 h61 mc hmc h62 hMB ri kd l1 l2 x3 x4 x5 x6 RU h58 hen n pg cc LD LK h3 h fs hm9 hl hE fr (hk h fs hm9 hl hE fr (by rw [if_neg h3, List.append_nil]; exact T))

end GU
