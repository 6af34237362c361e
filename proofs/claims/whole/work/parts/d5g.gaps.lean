section GU
variable {gu : Nat → Int64}
theorem iwX13_gaps_X13 : ∀ w ∈ wsX130, w ∈ wsX13_gaps := by decide +kernel
set_option maxRecDepth 20000 in
theorem ggX13_gaps_X13_most : GoodIn wsX13_gaps wsX13_most := goodIn_r _ [14] (by decide +kernel) (by decide +kernel)
set_option maxRecDepth 20000 in
theorem ggX13_gaps_X13_least : GoodIn wsX13_gaps wsX13_least := goodIn_r _ [17] (by decide +kernel) (by decide +kernel)
set_option maxRecDepth 20000 in
theorem ggX13_gaps_X13_tell : GoodIn wsX13_gaps wsX13_tell := goodIn_r _ [21, 22, 23, 24, 25, 26, 27, 28, 13, 29, 30, 31, 32, 33, 34, 35, 36, 37, 38, 39, 40, 41, 15, 16, 17, 11, 12, 14, 42, 43, 44, 45, 46, 47, 48, 49, 50, 51, 52, 53, 54, 55, 56, 57, 58, 59, 60, 61, 62, 63, 64, 65, 66, 67, 68, 69, 70, 71, 72, 73, 74, 75, 76, 77, 78, 79, 80, 81, 82, 83, 84, 85, 86, 87, 88, 89, 90, 91, 92, 93, 94, 95, 96, 97, 98, 99, 100, 101, 102, 103, 104, 105, 106, 107, 108, 109, 110, 111, 112] (by decide +kernel) (by decide +kernel)
set_option maxRecDepth 20000 in
theorem gX13_gaps_X13_tell : GoodIn wsX13_gaps (wsV RX13 276 RX13 yX13_tell wsX13_tell) := goodIn_app (goodIn_of _ (by decide +kernel)) ggX13_gaps_X13_tell
theorem dX13_gaps_0 : decode cX13_gaps 0 = .ok (.aload_n 0, 1) := by decide +kernel
theorem dX13_gaps_1 : decode cX13_gaps 1 = .ok (.getfield 125, 3) := by decide +kernel
theorem dX13_gaps_4 : decode cX13_gaps 4 = .ok (.iload 7, 2) := by decide +kernel
theorem dX13_gaps_6 : decode cX13_gaps 6 = .ok (.ifCond .eq 7, 3) := by decide +kernel
theorem dX13_gaps_9 : decode cX13_gaps 9 = .ok (.iload_n 3, 1) := by decide +kernel
theorem dX13_gaps_10 : decode cX13_gaps 10 = .ok (.goto 4, 3) := by decide +kernel
theorem dX13_gaps_13 : decode cX13_gaps 13 = .ok (.iload_n 1, 1) := by decide +kernel
theorem dX13_gaps_14 : decode cX13_gaps 14 = .ok (.iaload, 1) := by decide +kernel
theorem dX13_gaps_15 : decode cX13_gaps 15 = .ok (.istore 8, 2) := by decide +kernel
theorem dX13_gaps_17 : decode cX13_gaps 17 = .ok (.iload_n 1, 1) := by decide +kernel
theorem dX13_gaps_18 : decode cX13_gaps 18 = .ok (.iload_n 3, 1) := by decide +kernel
theorem dX13_gaps_19 : decode cX13_gaps 19 = .ok (.if_icmp .ne 7, 3) := by decide +kernel
theorem dX13_gaps_22 : decode cX13_gaps 22 = .ok (.iconst (-1), 1) := by decide +kernel
theorem dX13_gaps_23 : decode cX13_gaps 23 = .ok (.goto 18, 3) := by decide +kernel
theorem dX13_gaps_26 : decode cX13_gaps 26 = .ok (.aload_n 0, 1) := by decide +kernel
theorem dX13_gaps_27 : decode cX13_gaps 27 = .ok (.getfield 125, 3) := by decide +kernel
theorem dX13_gaps_30 : decode cX13_gaps 30 = .ok (.iload 7, 2) := by decide +kernel
theorem dX13_gaps_32 : decode cX13_gaps 32 = .ok (.ifCond .eq 7, 3) := by decide +kernel
theorem dX13_gaps_35 : decode cX13_gaps 35 = .ok (.iload_n 1, 1) := by decide +kernel
theorem dX13_gaps_36 : decode cX13_gaps 36 = .ok (.goto 4, 3) := by decide +kernel
theorem dX13_gaps_39 : decode cX13_gaps 39 = .ok (.iload_n 3, 1) := by decide +kernel
theorem dX13_gaps_40 : decode cX13_gaps 40 = .ok (.iaload, 1) := by decide +kernel
theorem dX13_gaps_41 : decode cX13_gaps 41 = .ok (.istore 9, 2) := by decide +kernel
theorem dX13_gaps_43 : decode cX13_gaps 43 = .ok (.bipush 16, 2) := by decide +kernel
theorem dX13_gaps_45 : decode cX13_gaps 45 = .ok (.iload_n 1, 1) := by decide +kernel
theorem dX13_gaps_46 : decode cX13_gaps 46 = .ok (.imul, 1) := by decide +kernel
theorem dX13_gaps_47 : decode cX13_gaps 47 = .ok (.istore 10, 2) := by decide +kernel
theorem dX13_gaps_49 : decode cX13_gaps 49 = .ok (.iload 10, 2) := by decide +kernel
theorem dX13_gaps_51 : decode cX13_gaps 51 = .ok (.bipush 16, 2) := by decide +kernel
theorem dX13_gaps_53 : decode cX13_gaps 53 = .ok (.iload_n 1, 1) := by decide +kernel
theorem dX13_gaps_54 : decode cX13_gaps 54 = .ok (.imul, 1) := by decide +kernel
theorem dX13_gaps_55 : decode cX13_gaps 55 = .ok (.aload_n 0, 1) := by decide +kernel
theorem dX13_gaps_56 : decode cX13_gaps 56 = .ok (.getfield 101, 3) := by decide +kernel
theorem dX13_gaps_59 : decode cX13_gaps 59 = .ok (.iload_n 1, 1) := by decide +kernel
theorem dX13_gaps_60 : decode cX13_gaps 60 = .ok (.iaload, 1) := by decide +kernel
theorem dX13_gaps_61 : decode cX13_gaps 61 = .ok (.iadd, 1) := by decide +kernel
theorem dX13_gaps_62 : decode cX13_gaps 62 = .ok (.if_icmp .ge 309, 3) := by decide +kernel
theorem dX13_gaps_65 : decode cX13_gaps 65 = .ok (.bipush 16, 2) := by decide +kernel
theorem dX13_gaps_67 : decode cX13_gaps 67 = .ok (.iload_n 3, 1) := by decide +kernel
theorem dX13_gaps_68 : decode cX13_gaps 68 = .ok (.imul, 1) := by decide +kernel
theorem dX13_gaps_69 : decode cX13_gaps 69 = .ok (.istore 11, 2) := by decide +kernel
theorem dX13_gaps_71 : decode cX13_gaps 71 = .ok (.iload 11, 2) := by decide +kernel
theorem dX13_gaps_73 : decode cX13_gaps 73 = .ok (.bipush 16, 2) := by decide +kernel
theorem dX13_gaps_75 : decode cX13_gaps 75 = .ok (.iload_n 3, 1) := by decide +kernel
theorem dX13_gaps_76 : decode cX13_gaps 76 = .ok (.imul, 1) := by decide +kernel
theorem dX13_gaps_77 : decode cX13_gaps 77 = .ok (.aload_n 0, 1) := by decide +kernel
theorem dX13_gaps_78 : decode cX13_gaps 78 = .ok (.getfield 101, 3) := by decide +kernel
theorem dX13_gaps_81 : decode cX13_gaps 81 = .ok (.iload_n 3, 1) := by decide +kernel
theorem dX13_gaps_82 : decode cX13_gaps 82 = .ok (.iaload, 1) := by decide +kernel
theorem dX13_gaps_83 : decode cX13_gaps 83 = .ok (.iadd, 1) := by decide +kernel
theorem dX13_gaps_84 : decode cX13_gaps 84 = .ok (.if_icmp .ge 281, 3) := by decide +kernel
theorem dX13_gaps_87 : decode cX13_gaps 87 = .ok (.aload_n 0, 1) := by decide +kernel
theorem dX13_gaps_88 : decode cX13_gaps 88 = .ok (.getfield 116, 3) := by decide +kernel
theorem dX13_gaps_91 : decode cX13_gaps 91 = .ok (.iload 11, 2) := by decide +kernel
theorem dX13_gaps_93 : decode cX13_gaps 93 = .ok (.laload, 1) := by decide +kernel
theorem dX13_gaps_94 : decode cX13_gaps 94 = .ok (.aload_n 0, 1) := by decide +kernel
theorem dX13_gaps_95 : decode cX13_gaps 95 = .ok (.getfield 116, 3) := by decide +kernel
theorem dX13_gaps_98 : decode cX13_gaps 98 = .ok (.iload 10, 2) := by decide +kernel
theorem dX13_gaps_100 : decode cX13_gaps 100 = .ok (.laload, 1) := by decide +kernel
theorem dX13_gaps_101 : decode cX13_gaps 101 = .ok (.lsub, 1) := by decide +kernel
theorem dX13_gaps_102 : decode cX13_gaps 102 = .ok (.lstore 12, 2) := by decide +kernel
theorem dX13_gaps_104 : decode cX13_gaps 104 = .ok (.aload_n 0, 1) := by decide +kernel
theorem dX13_gaps_105 : decode cX13_gaps 105 = .ok (.getfield 113, 3) := by decide +kernel
theorem dX13_gaps_108 : decode cX13_gaps 108 = .ok (.iload 10, 2) := by decide +kernel
theorem dX13_gaps_110 : decode cX13_gaps 110 = .ok (.iaload, 1) := by decide +kernel
theorem dX13_gaps_111 : decode cX13_gaps 111 = .ok (.iload_n 2, 1) := by decide +kernel
theorem dX13_gaps_112 : decode cX13_gaps 112 = .ok (.if_icmp .ne 247, 3) := by decide +kernel
theorem dX13_gaps_115 : decode cX13_gaps 115 = .ok (.aload_n 0, 1) := by decide +kernel
theorem dX13_gaps_116 : decode cX13_gaps 116 = .ok (.getfield 113, 3) := by decide +kernel
theorem dX13_gaps_119 : decode cX13_gaps 119 = .ok (.iload 11, 2) := by decide +kernel
theorem dX13_gaps_121 : decode cX13_gaps 121 = .ok (.iaload, 1) := by decide +kernel
theorem dX13_gaps_122 : decode cX13_gaps 122 = .ok (.iload 4, 2) := by decide +kernel
theorem dX13_gaps_124 : decode cX13_gaps 124 = .ok (.if_icmp .ne 235, 3) := by decide +kernel
theorem dX13_gaps_127 : decode cX13_gaps 127 = .ok (.lload 12, 2) := by decide +kernel
theorem dX13_gaps_129 : decode cX13_gaps 129 = .ok (.lload 5, 2) := by decide +kernel
theorem dX13_gaps_131 : decode cX13_gaps 131 = .ok (.lcmp, 1) := by decide +kernel
theorem dX13_gaps_132 : decode cX13_gaps 132 = .ok (.ifCond .lt 227, 3) := by decide +kernel
theorem dX13_gaps_135 : decode cX13_gaps 135 = .ok (.lload 12, 2) := by decide +kernel
theorem dX13_gaps_137 : decode cX13_gaps 137 = .ok (.aload_n 0, 1) := by decide +kernel
theorem dX13_gaps_138 : decode cX13_gaps 138 = .ok (.getfield 56, 3) := by decide +kernel
theorem dX13_gaps_141 : decode cX13_gaps 141 = .ok (.aload_n 0, 1) := by decide +kernel
theorem dX13_gaps_142 : decode cX13_gaps 142 = .ok (.getfield 254, 3) := by decide +kernel
theorem dX13_gaps_145 : decode cX13_gaps 145 = .ok (.laload, 1) := by decide +kernel
theorem dX13_gaps_146 : decode cX13_gaps 146 = .ok (.lcmp, 1) := by decide +kernel
theorem dX13_gaps_147 : decode cX13_gaps 147 = .ok (.ifCond .lt 6, 3) := by decide +kernel
theorem dX13_gaps_150 : decode cX13_gaps 150 = .ok (.goto 209, 3) := by decide +kernel
theorem dX13_gaps_153 : decode cX13_gaps 153 = .ok (.aload_n 0, 1) := by decide +kernel
theorem dX13_gaps_154 : decode cX13_gaps 154 = .ok (.getfield 119, 3) := by decide +kernel
theorem dX13_gaps_157 : decode cX13_gaps 157 = .ok (.iload 10, 2) := by decide +kernel
theorem dX13_gaps_159 : decode cX13_gaps 159 = .ok (.laload, 1) := by decide +kernel
theorem dX13_gaps_160 : decode cX13_gaps 160 = .ok (.aload_n 0, 1) := by decide +kernel
theorem dX13_gaps_161 : decode cX13_gaps 161 = .ok (.getfield 119, 3) := by decide +kernel
theorem dX13_gaps_164 : decode cX13_gaps 164 = .ok (.iload 11, 2) := by decide +kernel
theorem dX13_gaps_166 : decode cX13_gaps 166 = .ok (.laload, 1) := by decide +kernel
theorem dX13_gaps_167 : decode cX13_gaps 167 = .ok (.invokestatic 184, 3) := by decide +kernel
theorem dX13_gaps_170 : decode cX13_gaps 170 = .ok (.lstore 14, 2) := by decide +kernel
theorem dX13_gaps_172 : decode cX13_gaps 172 = .ok (.aload_n 0, 1) := by decide +kernel
theorem dX13_gaps_173 : decode cX13_gaps 173 = .ok (.getfield 122, 3) := by decide +kernel
theorem dX13_gaps_176 : decode cX13_gaps 176 = .ok (.iload 10, 2) := by decide +kernel
theorem dX13_gaps_178 : decode cX13_gaps 178 = .ok (.laload, 1) := by decide +kernel
theorem dX13_gaps_179 : decode cX13_gaps 179 = .ok (.aload_n 0, 1) := by decide +kernel
theorem dX13_gaps_180 : decode cX13_gaps 180 = .ok (.getfield 122, 3) := by decide +kernel
theorem dX13_gaps_183 : decode cX13_gaps 183 = .ok (.iload 11, 2) := by decide +kernel
theorem dX13_gaps_185 : decode cX13_gaps 185 = .ok (.laload, 1) := by decide +kernel
theorem dX13_gaps_186 : decode cX13_gaps 186 = .ok (.invokestatic 180, 3) := by decide +kernel
theorem dX13_gaps_189 : decode cX13_gaps 189 = .ok (.lstore 16, 2) := by decide +kernel
theorem dX13_gaps_191 : decode cX13_gaps 191 = .ok (.aload_n 0, 1) := by decide +kernel
theorem dX13_gaps_192 : decode cX13_gaps 192 = .ok (.getfield 65, 3) := by decide +kernel
theorem dX13_gaps_195 : decode cX13_gaps 195 = .ok (.aload_n 0, 1) := by decide +kernel
theorem dX13_gaps_196 : decode cX13_gaps 196 = .ok (.getfield 254, 3) := by decide +kernel
theorem dX13_gaps_199 : decode cX13_gaps 199 = .ok (.laload, 1) := by decide +kernel
theorem dX13_gaps_200 : decode cX13_gaps 200 = .ok (.lconst 0, 1) := by decide +kernel
theorem dX13_gaps_201 : decode cX13_gaps 201 = .ok (.lcmp, 1) := by decide +kernel
theorem dX13_gaps_202 : decode cX13_gaps 202 = .ok (.ifCond .lt 59, 3) := by decide +kernel
theorem dX13_gaps_205 : decode cX13_gaps 205 = .ok (.aload_n 0, 1) := by decide +kernel
theorem dX13_gaps_206 : decode cX13_gaps 206 = .ok (.getfield 122, 3) := by decide +kernel
theorem dX13_gaps_209 : decode cX13_gaps 209 = .ok (.iload 10, 2) := by decide +kernel
theorem dX13_gaps_211 : decode cX13_gaps 211 = .ok (.laload, 1) := by decide +kernel
theorem dX13_gaps_212 : decode cX13_gaps 212 = .ok (.aload_n 0, 1) := by decide +kernel
theorem dX13_gaps_213 : decode cX13_gaps 213 = .ok (.getfield 119, 3) := by decide +kernel
theorem dX13_gaps_216 : decode cX13_gaps 216 = .ok (.iload 10, 2) := by decide +kernel
theorem dX13_gaps_218 : decode cX13_gaps 218 = .ok (.laload, 1) := by decide +kernel
theorem dX13_gaps_219 : decode cX13_gaps 219 = .ok (.lsub, 1) := by decide +kernel
theorem dX13_gaps_220 : decode cX13_gaps 220 = .ok (.aload_n 0, 1) := by decide +kernel
theorem dX13_gaps_221 : decode cX13_gaps 221 = .ok (.getfield 65, 3) := by decide +kernel
theorem dX13_gaps_224 : decode cX13_gaps 224 = .ok (.aload_n 0, 1) := by decide +kernel
theorem dX13_gaps_225 : decode cX13_gaps 225 = .ok (.getfield 254, 3) := by decide +kernel
theorem dX13_gaps_228 : decode cX13_gaps 228 = .ok (.laload, 1) := by decide +kernel
theorem dX13_gaps_229 : decode cX13_gaps 229 = .ok (.lcmp, 1) := by decide +kernel
theorem dX13_gaps_230 : decode cX13_gaps 230 = .ok (.ifCond .lt 31, 3) := by decide +kernel
theorem dX13_gaps_233 : decode cX13_gaps 233 = .ok (.aload_n 0, 1) := by decide +kernel
theorem dX13_gaps_234 : decode cX13_gaps 234 = .ok (.getfield 122, 3) := by decide +kernel
theorem dX13_gaps_237 : decode cX13_gaps 237 = .ok (.iload 11, 2) := by decide +kernel
theorem dX13_gaps_239 : decode cX13_gaps 239 = .ok (.laload, 1) := by decide +kernel
theorem dX13_gaps_240 : decode cX13_gaps 240 = .ok (.aload_n 0, 1) := by decide +kernel
theorem dX13_gaps_241 : decode cX13_gaps 241 = .ok (.getfield 119, 3) := by decide +kernel
theorem dX13_gaps_244 : decode cX13_gaps 244 = .ok (.iload 11, 2) := by decide +kernel
theorem dX13_gaps_246 : decode cX13_gaps 246 = .ok (.laload, 1) := by decide +kernel
theorem dX13_gaps_247 : decode cX13_gaps 247 = .ok (.lsub, 1) := by decide +kernel
theorem dX13_gaps_248 : decode cX13_gaps 248 = .ok (.aload_n 0, 1) := by decide +kernel
theorem dX13_gaps_249 : decode cX13_gaps 249 = .ok (.getfield 65, 3) := by decide +kernel
theorem dX13_gaps_252 : decode cX13_gaps 252 = .ok (.aload_n 0, 1) := by decide +kernel
theorem dX13_gaps_253 : decode cX13_gaps 253 = .ok (.getfield 254, 3) := by decide +kernel
theorem dX13_gaps_256 : decode cX13_gaps 256 = .ok (.laload, 1) := by decide +kernel
theorem dX13_gaps_257 : decode cX13_gaps 257 = .ok (.lcmp, 1) := by decide +kernel
theorem dX13_gaps_258 : decode cX13_gaps 258 = .ok (.ifCond .ge 7, 3) := by decide +kernel
theorem dX13_gaps_261 : decode cX13_gaps 261 = .ok (.iconst 1, 1) := by decide +kernel
theorem dX13_gaps_262 : decode cX13_gaps 262 = .ok (.goto 4, 3) := by decide +kernel
theorem dX13_gaps_265 : decode cX13_gaps 265 = .ok (.iconst 0, 1) := by decide +kernel
theorem dX13_gaps_266 : decode cX13_gaps 266 = .ok (.istore 18, 2) := by decide +kernel
theorem dX13_gaps_268 : decode cX13_gaps 268 = .ok (.lload 16, 2) := by decide +kernel
theorem dX13_gaps_270 : decode cX13_gaps 270 = .ok (.lload 14, 2) := by decide +kernel
theorem dX13_gaps_272 : decode cX13_gaps 272 = .ok (.lsub, 1) := by decide +kernel
theorem dX13_gaps_273 : decode cX13_gaps 273 = .ok (.aload_n 0, 1) := by decide +kernel
theorem dX13_gaps_274 : decode cX13_gaps 274 = .ok (.getfield 59, 3) := by decide +kernel
theorem dX13_gaps_277 : decode cX13_gaps 277 = .ok (.aload_n 0, 1) := by decide +kernel
theorem dX13_gaps_278 : decode cX13_gaps 278 = .ok (.getfield 254, 3) := by decide +kernel
theorem dX13_gaps_281 : decode cX13_gaps 281 = .ok (.laload, 1) := by decide +kernel
theorem dX13_gaps_282 : decode cX13_gaps 282 = .ok (.lcmp, 1) := by decide +kernel
theorem dX13_gaps_283 : decode cX13_gaps 283 = .ok (.ifCond .lt 76, 3) := by decide +kernel
theorem dX13_gaps_286 : decode cX13_gaps 286 = .ok (.iload 18, 2) := by decide +kernel
theorem dX13_gaps_288 : decode cX13_gaps 288 = .ok (.ifCond .ne 6, 3) := by decide +kernel
theorem dX13_gaps_291 : decode cX13_gaps 291 = .ok (.goto 68, 3) := by decide +kernel
theorem dX13_gaps_294 : decode cX13_gaps 294 = .ok (.iload_n 2, 1) := by decide +kernel
theorem dX13_gaps_295 : decode cX13_gaps 295 = .ok (.iconst 2, 1) := by decide +kernel
theorem dX13_gaps_296 : decode cX13_gaps 296 = .ok (.irem, 1) := by decide +kernel
theorem dX13_gaps_297 : decode cX13_gaps 297 = .ok (.ifCond .ne 34, 3) := by decide +kernel
theorem dX13_gaps_300 : decode cX13_gaps 300 = .ok (.aload_n 0, 1) := by decide +kernel
theorem dX13_gaps_301 : decode cX13_gaps 301 = .ok (.aload_n 0, 1) := by decide +kernel
theorem dX13_gaps_302 : decode cX13_gaps 302 = .ok (.getfield 116, 3) := by decide +kernel
theorem dX13_gaps_305 : decode cX13_gaps 305 = .ok (.iload 10, 2) := by decide +kernel
theorem dX13_gaps_307 : decode cX13_gaps 307 = .ok (.laload, 1) := by decide +kernel
theorem dX13_gaps_308 : decode cX13_gaps 308 = .ok (.lload 14, 2) := by decide +kernel
theorem dX13_gaps_310 : decode cX13_gaps 310 = .ok (.aload_n 0, 1) := by decide +kernel
theorem dX13_gaps_311 : decode cX13_gaps 311 = .ok (.getfield 116, 3) := by decide +kernel
theorem dX13_gaps_314 : decode cX13_gaps 314 = .ok (.iload 11, 2) := by decide +kernel
theorem dX13_gaps_316 : decode cX13_gaps 316 = .ok (.laload, 1) := by decide +kernel
theorem dX13_gaps_317 : decode cX13_gaps 317 = .ok (.lload 16, 2) := by decide +kernel
theorem dX13_gaps_319 : decode cX13_gaps 319 = .ok (.iload 8, 2) := by decide +kernel
theorem dX13_gaps_321 : decode cX13_gaps 321 = .ok (.iload 9, 2) := by decide +kernel
theorem dX13_gaps_323 : decode cX13_gaps 323 = .ok (.lload 12, 2) := by decide +kernel
theorem dX13_gaps_325 : decode cX13_gaps 325 = .ok (.invokevirtual 276, 3) := by decide +kernel
theorem dX13_gaps_328 : decode cX13_gaps 328 = .ok (.goto 31, 3) := by decide +kernel
theorem dX13_gaps_331 : decode cX13_gaps 331 = .ok (.aload_n 0, 1) := by decide +kernel
theorem dX13_gaps_332 : decode cX13_gaps 332 = .ok (.lload 14, 2) := by decide +kernel
theorem dX13_gaps_334 : decode cX13_gaps 334 = .ok (.aload_n 0, 1) := by decide +kernel
theorem dX13_gaps_335 : decode cX13_gaps 335 = .ok (.getfield 116, 3) := by decide +kernel
theorem dX13_gaps_338 : decode cX13_gaps 338 = .ok (.iload 10, 2) := by decide +kernel
theorem dX13_gaps_340 : decode cX13_gaps 340 = .ok (.laload, 1) := by decide +kernel
theorem dX13_gaps_341 : decode cX13_gaps 341 = .ok (.lload 16, 2) := by decide +kernel
theorem dX13_gaps_343 : decode cX13_gaps 343 = .ok (.aload_n 0, 1) := by decide +kernel
theorem dX13_gaps_344 : decode cX13_gaps 344 = .ok (.getfield 116, 3) := by decide +kernel
theorem dX13_gaps_347 : decode cX13_gaps 347 = .ok (.iload 11, 2) := by decide +kernel
theorem dX13_gaps_349 : decode cX13_gaps 349 = .ok (.laload, 1) := by decide +kernel
theorem dX13_gaps_350 : decode cX13_gaps 350 = .ok (.iload 8, 2) := by decide +kernel
theorem dX13_gaps_352 : decode cX13_gaps 352 = .ok (.iload 9, 2) := by decide +kernel
theorem dX13_gaps_354 : decode cX13_gaps 354 = .ok (.lload 12, 2) := by decide +kernel
theorem dX13_gaps_356 : decode cX13_gaps 356 = .ok (.invokevirtual 276, 3) := by decide +kernel
theorem dX13_gaps_359 : decode cX13_gaps 359 = .ok (.iinc 11 1, 3) := by decide +kernel
theorem dX13_gaps_362 : decode cX13_gaps 362 = .ok (.goto (-291), 3) := by decide +kernel
theorem dX13_gaps_365 : decode cX13_gaps 365 = .ok (.iinc 10 1, 3) := by decide +kernel
theorem dX13_gaps_368 : decode cX13_gaps 368 = .ok (.goto (-319), 3) := by decide +kernel
theorem dX13_gaps_371 : decode cX13_gaps 371 = .ok (.return_, 1) := by decide +kernel

abbrev mX13_gaps : sv_M := (cX13_gaps, 19, yX13_gaps, wsX13_gaps, none, { frames := 8, cells := 0, slots := 0, locals := 200 }, [])
set_option maxHeartbeats 4000000 in
set_option maxRecDepth 100000 in
theorem l_gpI (G : sv_G) (Qr : Option Value → sv_h → Nat → Prop) (z b nc np pl : Nat) (R : Nat → Bool) (hm p3 p4 sz : Nat → Nat) (ly vo : Nat → Int32) (mp : Nat → mvT) (X Y : Nat → Nat → Int) (hb : sv_h) (fs0 : List Value) (hq0 : mfq_ b nc np pl fs0) (MY : myl_ G hb b nc np pl R hm p3 p4 sz ly vo mp X Y) (O : List (List Nat × Nat)) (MO : moc_ G hb b O) (o : Nat) (ho : o < O.length) (how : ∀ i, i ∈ (O.getD o ([], 0)).1 → i < pl) (d : Nat) (hd : d ≤ (O.getD o ([], 0)).1.length) (h60 : fs0[60]? = some (.int (nI o))) (h61 : fs0[61]? = some (.int (nI d))) (mc : Nat) (hmc : mc < 100) (h62 : fs0[62]? = some (.int (nI mc))) (hMB : ∀ x y : Int, -200000 ≤ x ∧ x ≤ 200000 → -200000 ≤ y ∧ y ≤ 200000 → (-1000000000 ≤ (mvA (mvW mp ((O.getD o ([], 0)).1.take d)) (x, y)).1 ∧ (mvA (mvW mp ((O.getD o ([], 0)).1.take d)) (x, y)).1 ≤ 1000000000) ∧ (-1000000000 ≤ (mvA (mvW mp ((O.getD o ([], 0)).1.take d)) (x, y)).2 ∧ (mvA (mvW mp ((O.getD o ([], 0)).1.take d)) (x, y)).2 ≤ 1000000000)) (ri kd : Nat) (l1 l2 x3 x4 x5 x6 : Int32) (RU : mru_ G hb b ri kd l1 l2 x3 x4 x5 x6) (h58 : fs0[58]? = some (.int (nI ri))) (hen : x6 = -1 ∨ 0 ≤ x6) (kk : Nat) (n pg : Nat → Nat) (cc : Nat → Nat → Int × Int) (LD : mld_ G hb b kk n pg cc) (LK : mlk_ kk n pg cc) (v w fV fW : Nat) (hv : v < kk) (hw : w < kk) (hfV : fV < 4) (hfW : fW < 4) (near : Int) (hne : 0 ≤ near ∧ near ≤ 1) (tu : Int32) (a c : Int) (ha : -1 ≤ a ∧ a < 64) (hc : -1 ≤ c ∧ c < 64) (ii : Nat) (hii : ii < n v) (E0 : List (List Int64)) (hk : ∀ (h : sv_h) (fs : List Value), h (b + 220) = some (.inr (11, fs)) → fs.length = 71 → fsE [28, 29, 52, 53] fs0 fs → (∀ a, a ≠ b + 220 → a ≠ b + 241 → h a = hb a) → mT_ gu G h b fs ((E0 ++ (List.range (n w)).flatMap (fun j => (gpR (mvW mp ((O.getD o ([], 0)).1.take d)) fV fW near x3.toInt (lrn x4).toInt x6 a c (mc : Int) (fcM (twS (cc v) (n v)) (cc v)) (fcM (twS (cc w) (n w)) (cc w)) (itM (cc v)) (itM (cc w)) ii j)))) → V G mX13_gaps (sv_MQ G mX13_gaps Qr) 365 [(10, .int (nI (16 * v + ii))), (9, .int (iN c)), (8, .int (iN a)), (7, .int tu), (5, .long (jN near)), (4, .int (nI fW)), (3, .int (nI w)), (2, .int (nI fV)), (1, .int (nI v)), (0, .ref (b + 220))] [] h z 0 0) : ∀ (e jj : Nat) (h : sv_h) (fs : List Value), jj + e = n w → h (b + 220) = some (.inr (11, fs)) → fs.length = 71 → fsE [28, 29, 52, 53] fs0 fs → (∀ a, a ≠ b + 220 → a ≠ b + 241 → h a = hb a) → mT_ gu G h b fs ((E0 ++ (List.range jj).flatMap (fun j => (gpR (mvW mp ((O.getD o ([], 0)).1.take d)) fV fW near x3.toInt (lrn x4).toInt x6 a c (mc : Int) (fcM (twS (cc v) (n v)) (cc v)) (fcM (twS (cc w) (n w)) (cc w)) (itM (cc v)) (itM (cc w)) ii j)))) → V G mX13_gaps (sv_MQ G mX13_gaps Qr) 71 [(11, .int (nI (16 * w + jj))), (10, .int (nI (16 * v + ii))), (9, .int (iN c)), (8, .int (iN a)), (7, .int tu), (5, .long (jN near)), (4, .int (nI fW)), (3, .int (nI w)), (2, .int (nI fV)), (1, .int (nI v)), (0, .ref (b + 220))] [] h z 0 0 := by
  intro e
  induction e with
  | zero =>
    intro jj h fs hje hm9 hl hE fr T
    obtain ⟨k0, k1⟩ := id LK
    obtain ⟨r0, r1, ⟨j33, r33, r33a⟩, ⟨j34, r34, r34a⟩, ⟨j35, r35, r35a⟩, ⟨j36, r36, r36a⟩, ⟨j37, r37, r37a⟩, ⟨j38, r38, r38a⟩, ⟨j39, r39, r39a⟩⟩ := id RU
    obtain ⟨fsd, fo, ft, ff, gx, gy, gp, gl, gh, d49, d50, d51, d52, d53, d54, d55, d56, d57, dd⟩ := id LD
    obtain ⟨⟨zv1, zv2⟩, pv, cv⟩ := k1 v hv
    obtain ⟨⟨zw1, zw2⟩, pw, cw⟩ := k1 w hw
    obtain ⟨sv1, sv2, sv3, sv4, sv5⟩ := dd v hv
    obtain ⟨sw1, sw2, sw3, sw4, sw5⟩ := dd w hw
    have hqf := hq0.to (S := [28, 29, 52, 53]) hl hE (by decide)
    have hlen : fs.length = 71 := hl
    have f_sides := hqf.f_sides
    have f_face := hqf.f_face
    have f_pos := hqf.f_pos
    have f_low := hqf.f_low
    have f_high := hqf.f_high
    have f_ofPolygon := hqf.f_ofPolygon
    have f_bound := hqf.f_bound
    have f_run := hqf.f_run
    have f_end := hqf.f_end
    have f_rule : fs[58]? = some (.int (nI ri)) := (hE 58 (by decide)).trans h58
    have w249 : ab_I G h (b + 249) 2 fsd := (fr _ (by omega) (by omega)).trans d49
    have w253 : ab_I G h (b + 253) 32 ff := (fr _ (by omega) (by omega)).trans d53
    have w254 : ab_J G h (b + 254) 32 gp := (fr _ (by omega) (by omega)).trans d54
    have w255 : ab_J G h (b + 255) 32 gl := (fr _ (by omega) (by omega)).trans d55
    have w256 : ab_J G h (b + 256) 32 gh := (fr _ (by omega) (by omega)).trans d56
    have w257 : ab_I G h (b + 257) 2 fo := (fr _ (by omega) (by omega)).trans d57
    have w236 : ab_J G h (b + 236) 40 j36 := (fr _ (by omega) (by omega)).trans r36
    have w237 : ab_J G h (b + 237) 40 j37 := (fr _ (by omega) (by omega)).trans r37
    have w239 : ab_J G h (b + 239) 40 j39 := (fr _ (by omega) (by omega)).trans r39
    have X3a := x3.le_toInt
    have X3b := x3.toInt_lt
    have X4a := (lrn x4).le_toInt
    have X4b := (lrn x4).toInt_lt
    have X6a := x6.le_toInt
    have X6b := x6.toInt_lt
    have e9 : jj = n w := by omega
    subst e9
    refine v_iload dX13_gaps_71 0 rfl ?_
    refine v_bipush (v := 16) dX13_gaps_73 (by decide) ?_
    refine v_iload_n dX13_gaps_75 rfl 7 rfl ?_
    refine v_imul dX13_gaps_76 ?_
    refine v_aload_n dX13_gaps_77 rfl 10 rfl ?_
    refine v_getf 43 (ci := 11) (C := RX13) (T := TX13) (N := 71) rfl iwX13_gaps_X13 (Nat.le_of_ble_eq_true rfl) (by decide +kernel) dX13_gaps_78 (by first | with_reducible assumption) (by repeat (first | with_reducible assumption | (with_reducible refine (sv_ls (by first | omega | (simp only [List.length_set]; omega))).trans ?_; exact rfl) | with_reducible refine (List.getElem?_set_ne (by decide)).trans ?_)) ?_
    refine v_iload_n dX13_gaps_81 rfl 7 rfl ?_
    refine v_ialdS (v := nI (n w)) dX13_gaps_82 (by first | with_reducible assumption) (vp_in_nI (by omega) (by omega)) (by rw [nI_clamp (by omega)]; exact sw1) ?_
    refine v_iadd dX13_gaps_83 ?_
    rw [sv_16a]
    refine v_icmp_ge (tgt := 365) dX13_gaps_84 (by decide) (fun c_84 => ?_) (fun c_84 => ?_)
    · refine v_sub (L' := [(10, _), (9, _), (8, _), (7, _), (5, _), (4, _), (3, _), (2, _), (1, _), (0, _)]) [1, 2, 3, 4, 5, 6, 7, 8, 9, 10] rfl ?_
      exact hk h fs hm9 hl hE fr T
    · exact absurd (nI_le (Nat.le_refl _) (by omega)) c_84
  | succ e ih =>
    intro jj h fs hje hm9 hl hE fr T
    obtain ⟨k0, k1⟩ := id LK
    obtain ⟨r0, r1, ⟨j33, r33, r33a⟩, ⟨j34, r34, r34a⟩, ⟨j35, r35, r35a⟩, ⟨j36, r36, r36a⟩, ⟨j37, r37, r37a⟩, ⟨j38, r38, r38a⟩, ⟨j39, r39, r39a⟩⟩ := id RU
    obtain ⟨fsd, fo, ft, ff, gx, gy, gp, gl, gh, d49, d50, d51, d52, d53, d54, d55, d56, d57, dd⟩ := id LD
    obtain ⟨⟨zv1, zv2⟩, pv, cv⟩ := k1 v hv
    obtain ⟨⟨zw1, zw2⟩, pw, cw⟩ := k1 w hw
    obtain ⟨sv1, sv2, sv3, sv4, sv5⟩ := dd v hv
    obtain ⟨sw1, sw2, sw3, sw4, sw5⟩ := dd w hw
    have hqf := hq0.to (S := [28, 29, 52, 53]) hl hE (by decide)
    have hlen : fs.length = 71 := hl
    have f_sides := hqf.f_sides
    have f_face := hqf.f_face
    have f_pos := hqf.f_pos
    have f_low := hqf.f_low
    have f_high := hqf.f_high
    have f_ofPolygon := hqf.f_ofPolygon
    have f_bound := hqf.f_bound
    have f_run := hqf.f_run
    have f_end := hqf.f_end
    have f_rule : fs[58]? = some (.int (nI ri)) := (hE 58 (by decide)).trans h58
    have w249 : ab_I G h (b + 249) 2 fsd := (fr _ (by omega) (by omega)).trans d49
    have w253 : ab_I G h (b + 253) 32 ff := (fr _ (by omega) (by omega)).trans d53
    have w254 : ab_J G h (b + 254) 32 gp := (fr _ (by omega) (by omega)).trans d54
    have w255 : ab_J G h (b + 255) 32 gl := (fr _ (by omega) (by omega)).trans d55
    have w256 : ab_J G h (b + 256) 32 gh := (fr _ (by omega) (by omega)).trans d56
    have w257 : ab_I G h (b + 257) 2 fo := (fr _ (by omega) (by omega)).trans d57
    have w236 : ab_J G h (b + 236) 40 j36 := (fr _ (by omega) (by omega)).trans r36
    have w237 : ab_J G h (b + 237) 40 j37 := (fr _ (by omega) (by omega)).trans r37
    have w239 : ab_J G h (b + 239) 40 j39 := (fr _ (by omega) (by omega)).trans r39
    have X3a := x3.le_toInt
    have X3b := x3.toInt_lt
    have X4a := (lrn x4).le_toInt
    have X4b := (lrn x4).toInt_lt
    have X6a := x6.le_toInt
    have X6b := x6.toInt_lt
    have hjj : jj < n w := by omega
    obtain ⟨q1, q2, q3, q4⟩ := sv5 ii hii
    obtain ⟨p1, p2, p3_, p4_⟩ := sw5 jj hjj
    obtain ⟨a1, a2, a3⟩ := itM_b cv hii
    obtain ⟨e1, e2, e3⟩ := itM_b cw hjj
    refine v_iload dX13_gaps_71 0 rfl ?_
    refine v_bipush (v := 16) dX13_gaps_73 (by decide) ?_
    refine v_iload_n dX13_gaps_75 rfl 7 rfl ?_
    refine v_imul dX13_gaps_76 ?_
    refine v_aload_n dX13_gaps_77 rfl 10 rfl ?_
    refine v_getf 43 (ci := 11) (C := RX13) (T := TX13) (N := 71) rfl iwX13_gaps_X13 (Nat.le_of_ble_eq_true rfl) (by decide +kernel) dX13_gaps_78 (by first | with_reducible assumption) (by repeat (first | with_reducible assumption | (with_reducible refine (sv_ls (by first | omega | (simp only [List.length_set]; omega))).trans ?_; exact rfl) | with_reducible refine (List.getElem?_set_ne (by decide)).trans ?_)) ?_
    refine v_iload_n dX13_gaps_81 rfl 7 rfl ?_
    refine v_ialdS (v := nI (n w)) dX13_gaps_82 (by first | with_reducible assumption) (vp_in_nI (by omega) (by omega)) (by rw [nI_clamp (by omega)]; exact sw1) ?_
    refine v_iadd dX13_gaps_83 ?_
    rw [sv_16a]
    refine v_icmp_ge (tgt := 365) dX13_gaps_84 (by decide) (fun c_84 => ?_) (fun c_84 => ?_)
    · exact absurd c_84 (nI_ge (show 16 * w + jj < 16 * w + n w by omega) (by omega))
    · refine v_aload_n dX13_gaps_87 rfl 10 rfl ?_
      refine v_getf 48 (ci := 11) (C := RX13) (T := TX13) (N := 71) rfl iwX13_gaps_X13 (Nat.le_of_ble_eq_true rfl) (by decide +kernel) dX13_gaps_88 (by first | with_reducible assumption) (by repeat (first | with_reducible assumption | (with_reducible refine (sv_ls (by first | omega | (simp only [List.length_set]; omega))).trans ?_; exact rfl) | with_reducible refine (List.getElem?_set_ne (by decide)).trans ?_)) ?_
      refine v_iload dX13_gaps_91 0 rfl ?_
      refine v_laldS (v := jN (itM (cc w) jj).1) dX13_gaps_93 (by first | with_reducible assumption) (vp_in_nI (by omega) (by omega)) (by rw [nI_clamp (by omega)]; exact p2) ?_
      refine v_aload_n dX13_gaps_94 rfl 10 rfl ?_
      refine v_getf 48 (ci := 11) (C := RX13) (T := TX13) (N := 71) rfl iwX13_gaps_X13 (Nat.le_of_ble_eq_true rfl) (by decide +kernel) dX13_gaps_95 (by first | with_reducible assumption) (by repeat (first | with_reducible assumption | (with_reducible refine (sv_ls (by first | omega | (simp only [List.length_set]; omega))).trans ?_; exact rfl) | with_reducible refine (List.getElem?_set_ne (by decide)).trans ?_)) ?_
      refine v_iload dX13_gaps_98 1 rfl ?_
      refine v_laldS (v := jN (itM (cc v) ii).1) dX13_gaps_100 (by first | with_reducible assumption) (vp_in_nI (by omega) (by omega)) (by rw [nI_clamp (by omega)]; exact q2) ?_
      refine v_lsub dX13_gaps_101 ?_
      rw [← jN_sub]
      refine v_lstore (L' := [(12, _), (11, _), (10, _), (9, _), (8, _), (7, _), (5, _), (4, _), (3, _), (2, _), (1, _), (0, _)]) dX13_gaps_102 (Nat.le_of_ble_eq_true rfl) rfl ?_
      refine v_aload_n dX13_gaps_104 rfl 11 rfl ?_
      refine v_getf 47 (ci := 11) (C := RX13) (T := TX13) (N := 71) rfl iwX13_gaps_X13 (Nat.le_of_ble_eq_true rfl) (by decide +kernel) dX13_gaps_105 (by first | with_reducible assumption) (by repeat (first | with_reducible assumption | (with_reducible refine (sv_ls (by first | omega | (simp only [List.length_set]; omega))).trans ?_; exact rfl) | with_reducible refine (List.getElem?_set_ne (by decide)).trans ?_)) ?_
      refine v_iload dX13_gaps_108 2 rfl ?_
      refine v_ialdS (v := nI ((fcM (twS (cc v) (n v)) (cc v)) ii)) dX13_gaps_110 (by first | with_reducible assumption) (vp_in_nI (by omega) (by omega)) (by rw [nI_clamp (by omega)]; exact q1) ?_
      refine v_iload_n dX13_gaps_111 rfl 9 rfl ?_
      refine v_icmp_ne (tgt := 359) dX13_gaps_112 (by decide) (fun c_112 => ?_) (fun c_112 => ?_)
      · refine v_iinc (j := 1) (L' := [(11, _), (12, _), (10, _), (9, _), (8, _), (7, _), (5, _), (4, _), (3, _), (2, _), (1, _), (0, _)]) (v := nI (16 * w + (jj + 1))) dX13_gaps_359 rfl (nI_1 _) (Nat.le_of_ble_eq_true rfl) rfl ?_
        refine v_goto (tgt := 71) dX13_gaps_362 (by decide) ?_
        refine v_sub (L' := [(11, _), (10, _), (9, _), (8, _), (7, _), (5, _), (4, _), (3, _), (2, _), (1, _), (0, _)]) [0, 2, 3, 4, 5, 6, 7, 8, 9, 10, 11] rfl ?_
        first
          | exact absurd (show (1 : Int32) = 0 from c_288) (by decide)
          | exact absurd rfl (show ¬ (0 : Int32) = 0 from c_288)
          | (have c9 := T1
             refine ih (jj + 1) h1 fs1 (by omega) u1 u2 u3 u4 ?_
             rw [rgm_s, ← List.append_assoc, show (gpR (mvW mp ((O.getD o ([], 0)).1.take d)) fV fW near x3.toInt (lrn x4).toInt x6 a c (mc : Int) (fcM (twS (cc v) (n v)) (cc v)) (fcM (twS (cc w) (n w)) (cc w)) (itM (cc v)) (itM (cc w)) ii jj) = [_] from (if_pos ⟨hf1, hf2⟩).trans (congrArg (List.map (mvR (mvW mp ((O.getD o ([], 0)).1.take d)))) (if_pos hcon))]
             first
               | (rw [if_pos (show upr fV = true from (upr_2 fV hfV).trans (decide_eq_true c_297))]; exact c9)
               | (rw [if_neg (show ¬ upr fV = true from fun e9 => c_297 (of_decide_eq_true ((upr_2 fV hfV).symm.trans e9)))]; exact c9))
          | (refine ih (jj + 1) h fs (by omega) hm9 hl hE fr ?_
             rw [rgm_s, show (gpR (mvW mp ((O.getD o ([], 0)).1.take d)) fV fW near x3.toInt (lrn x4).toInt x6 a c (mc : Int) (fcM (twS (cc v) (n v)) (cc v)) (fcM (twS (cc w) (n w)) (cc w)) (itM (cc v)) (itM (cc w)) ii jj) = [] from ?_, List.append_nil]
             · exact T
             · first
                 | exact if_neg (fun r9 => c_112 (congrArg nI r9.1))
                 | exact if_neg (fun r9 => c_124 (congrArg nI r9.2))
                 | (unfold gpR
                    split
                    · rw [show acR (upr fV) near x3.toInt (lrn x4).toInt x6 a c (mc : Int) (itM (cc v) ii) (itM (cc w) jj) = [] from if_neg (fun r9 => (by
                        first
                          | exact absurd ((jN_lt (by omega) (by omega) (by omega) (by omega)).mp c_132) (Int.not_lt.mpr r9.1)
                          | exact absurd ((jN_lt (by omega) (by omega) (by omega) (by omega)).mpr r9.2.1) c_147
                          | exact absurd ((jN_lt (by omega) (by omega) (by omega) (by omega)).mp c_283) (Int.not_lt.mpr r9.2.2.1)
                          | (have g1 := mt (jN_lt (b := 0) (by omega) (by omega) (by omega) (by omega)).mpr c_202
                             have g2 := mt (jN_lt (by omega) (by omega) (by omega) (by omega)).mpr c_230
                             have g3 := (jN_le (by omega) (by omega) (by omega) (by omega)).mp c_258
                             rcases r9.2.2.2 with e9 | e9
                             · rw [e9] at g1
                               exact g1 (by decide)
                             · omega)))]
                      rfl
                    · rfl))
      · refine v_aload_n dX13_gaps_115 rfl 11 rfl ?_
        refine v_getf 47 (ci := 11) (C := RX13) (T := TX13) (N := 71) rfl iwX13_gaps_X13 (Nat.le_of_ble_eq_true rfl) (by decide +kernel) dX13_gaps_116 (by first | with_reducible assumption) (by repeat (first | with_reducible assumption | (with_reducible refine (sv_ls (by first | omega | (simp only [List.length_set]; omega))).trans ?_; exact rfl) | with_reducible refine (List.getElem?_set_ne (by decide)).trans ?_)) ?_
        refine v_iload dX13_gaps_119 1 rfl ?_
        refine v_ialdS (v := nI ((fcM (twS (cc w) (n w)) (cc w)) jj)) dX13_gaps_121 (by first | with_reducible assumption) (vp_in_nI (by omega) (by omega)) (by rw [nI_clamp (by omega)]; exact p1) ?_
        refine v_iload dX13_gaps_122 7 rfl ?_
        refine v_icmp_ne (tgt := 359) dX13_gaps_124 (by decide) (fun c_124 => ?_) (fun c_124 => ?_)
        · refine v_iinc (j := 1) (L' := [(11, _), (12, _), (10, _), (9, _), (8, _), (7, _), (5, _), (4, _), (3, _), (2, _), (1, _), (0, _)]) (v := nI (16 * w + (jj + 1))) dX13_gaps_359 rfl (nI_1 _) (Nat.le_of_ble_eq_true rfl) rfl ?_
          refine v_goto (tgt := 71) dX13_gaps_362 (by decide) ?_
          refine v_sub (L' := [(11, _), (10, _), (9, _), (8, _), (7, _), (5, _), (4, _), (3, _), (2, _), (1, _), (0, _)]) [0, 2, 3, 4, 5, 6, 7, 8, 9, 10, 11] rfl ?_
          first
            | exact absurd (show (1 : Int32) = 0 from c_288) (by decide)
            | exact absurd rfl (show ¬ (0 : Int32) = 0 from c_288)
            | (have c9 := T1
               refine ih (jj + 1) h1 fs1 (by omega) u1 u2 u3 u4 ?_
               rw [rgm_s, ← List.append_assoc, show (gpR (mvW mp ((O.getD o ([], 0)).1.take d)) fV fW near x3.toInt (lrn x4).toInt x6 a c (mc : Int) (fcM (twS (cc v) (n v)) (cc v)) (fcM (twS (cc w) (n w)) (cc w)) (itM (cc v)) (itM (cc w)) ii jj) = [_] from (if_pos ⟨hf1, hf2⟩).trans (congrArg (List.map (mvR (mvW mp ((O.getD o ([], 0)).1.take d)))) (if_pos hcon))]
               first
                 | (rw [if_pos (show upr fV = true from (upr_2 fV hfV).trans (decide_eq_true c_297))]; exact c9)
                 | (rw [if_neg (show ¬ upr fV = true from fun e9 => c_297 (of_decide_eq_true ((upr_2 fV hfV).symm.trans e9)))]; exact c9))
            | (refine ih (jj + 1) h fs (by omega) hm9 hl hE fr ?_
               rw [rgm_s, show (gpR (mvW mp ((O.getD o ([], 0)).1.take d)) fV fW near x3.toInt (lrn x4).toInt x6 a c (mc : Int) (fcM (twS (cc v) (n v)) (cc v)) (fcM (twS (cc w) (n w)) (cc w)) (itM (cc v)) (itM (cc w)) ii jj) = [] from ?_, List.append_nil]
               · exact T
               · first
                   | exact if_neg (fun r9 => c_112 (congrArg nI r9.1))
                   | exact if_neg (fun r9 => c_124 (congrArg nI r9.2))
                   | (unfold gpR
                      split
                      · rw [show acR (upr fV) near x3.toInt (lrn x4).toInt x6 a c (mc : Int) (itM (cc v) ii) (itM (cc w) jj) = [] from if_neg (fun r9 => (by
                          first
                            | exact absurd ((jN_lt (by omega) (by omega) (by omega) (by omega)).mp c_132) (Int.not_lt.mpr r9.1)
                            | exact absurd ((jN_lt (by omega) (by omega) (by omega) (by omega)).mpr r9.2.1) c_147
                            | exact absurd ((jN_lt (by omega) (by omega) (by omega) (by omega)).mp c_283) (Int.not_lt.mpr r9.2.2.1)
                            | (have g1 := mt (jN_lt (b := 0) (by omega) (by omega) (by omega) (by omega)).mpr c_202
                               have g2 := mt (jN_lt (by omega) (by omega) (by omega) (by omega)).mpr c_230
                               have g3 := (jN_le (by omega) (by omega) (by omega) (by omega)).mp c_258
                               rcases r9.2.2.2 with e9 | e9
                               · rw [e9] at g1
                                 exact g1 (by decide)
                               · omega)))]
                        rfl
                      · rfl))
        · refine v_lload dX13_gaps_127 0 rfl ?_
          refine v_lload dX13_gaps_129 6 rfl ?_
          refine v_lcmp_lt (tgt := 359) dX13_gaps_131 dX13_gaps_132 (by decide) (fun c_132 => ?_) (fun c_132 => ?_)
          · refine v_iinc (j := 1) (L' := [(11, _), (12, _), (10, _), (9, _), (8, _), (7, _), (5, _), (4, _), (3, _), (2, _), (1, _), (0, _)]) (v := nI (16 * w + (jj + 1))) dX13_gaps_359 rfl (nI_1 _) (Nat.le_of_ble_eq_true rfl) rfl ?_
            refine v_goto (tgt := 71) dX13_gaps_362 (by decide) ?_
            refine v_sub (L' := [(11, _), (10, _), (9, _), (8, _), (7, _), (5, _), (4, _), (3, _), (2, _), (1, _), (0, _)]) [0, 2, 3, 4, 5, 6, 7, 8, 9, 10, 11] rfl ?_
            first
              | exact absurd (show (1 : Int32) = 0 from c_288) (by decide)
              | exact absurd rfl (show ¬ (0 : Int32) = 0 from c_288)
              | (have c9 := T1
                 refine ih (jj + 1) h1 fs1 (by omega) u1 u2 u3 u4 ?_
                 rw [rgm_s, ← List.append_assoc, show (gpR (mvW mp ((O.getD o ([], 0)).1.take d)) fV fW near x3.toInt (lrn x4).toInt x6 a c (mc : Int) (fcM (twS (cc v) (n v)) (cc v)) (fcM (twS (cc w) (n w)) (cc w)) (itM (cc v)) (itM (cc w)) ii jj) = [_] from (if_pos ⟨hf1, hf2⟩).trans (congrArg (List.map (mvR (mvW mp ((O.getD o ([], 0)).1.take d)))) (if_pos hcon))]
                 first
                   | (rw [if_pos (show upr fV = true from (upr_2 fV hfV).trans (decide_eq_true c_297))]; exact c9)
                   | (rw [if_neg (show ¬ upr fV = true from fun e9 => c_297 (of_decide_eq_true ((upr_2 fV hfV).symm.trans e9)))]; exact c9))
              | (refine ih (jj + 1) h fs (by omega) hm9 hl hE fr ?_
                 rw [rgm_s, show (gpR (mvW mp ((O.getD o ([], 0)).1.take d)) fV fW near x3.toInt (lrn x4).toInt x6 a c (mc : Int) (fcM (twS (cc v) (n v)) (cc v)) (fcM (twS (cc w) (n w)) (cc w)) (itM (cc v)) (itM (cc w)) ii jj) = [] from ?_, List.append_nil]
                 · exact T
                 · first
                     | exact if_neg (fun r9 => c_112 (congrArg nI r9.1))
                     | exact if_neg (fun r9 => c_124 (congrArg nI r9.2))
                     | (unfold gpR
                        split
                        · rw [show acR (upr fV) near x3.toInt (lrn x4).toInt x6 a c (mc : Int) (itM (cc v) ii) (itM (cc w) jj) = [] from if_neg (fun r9 => (by
                            first
                              | exact absurd ((jN_lt (by omega) (by omega) (by omega) (by omega)).mp c_132) (Int.not_lt.mpr r9.1)
                              | exact absurd ((jN_lt (by omega) (by omega) (by omega) (by omega)).mpr r9.2.1) c_147
                              | exact absurd ((jN_lt (by omega) (by omega) (by omega) (by omega)).mp c_283) (Int.not_lt.mpr r9.2.2.1)
                              | (have g1 := mt (jN_lt (b := 0) (by omega) (by omega) (by omega) (by omega)).mpr c_202
                                 have g2 := mt (jN_lt (by omega) (by omega) (by omega) (by omega)).mpr c_230
                                 have g3 := (jN_le (by omega) (by omega) (by omega) (by omega)).mp c_258
                                 rcases r9.2.2.2 with e9 | e9
                                 · rw [e9] at g1
                                   exact g1 (by decide)
                                 · omega)))]
                          rfl
                        · rfl))
          · refine v_lload dX13_gaps_135 0 rfl ?_
            refine v_aload_n dX13_gaps_137 rfl 11 rfl ?_
            refine v_getf 22 (ci := 11) (C := RX13) (T := TX13) (N := 71) rfl iwX13_gaps_X13 (Nat.le_of_ble_eq_true rfl) (by decide +kernel) dX13_gaps_138 (by first | with_reducible assumption) (by repeat (first | with_reducible assumption | (with_reducible refine (sv_ls (by first | omega | (simp only [List.length_set]; omega))).trans ?_; exact rfl) | with_reducible refine (List.getElem?_set_ne (by decide)).trans ?_)) ?_
            refine v_aload_n dX13_gaps_141 rfl 11 rfl ?_
            refine v_getf 58 (ci := 11) (C := RX13) (T := TX13) (N := 71) rfl iwX13_gaps_X13 (Nat.le_of_ble_eq_true rfl) (by decide +kernel) dX13_gaps_142 (by first | with_reducible assumption) (by repeat (first | with_reducible assumption | (with_reducible refine (sv_ls (by first | omega | (simp only [List.length_set]; omega))).trans ?_; exact rfl) | with_reducible refine (List.getElem?_set_ne (by decide)).trans ?_)) ?_
            refine v_laldS (v := jN x3.toInt) dX13_gaps_145 (by first | with_reducible assumption) (vp_in_nI (by omega) (by omega)) (by rw [nI_clamp (by omega)]; exact r36a) ?_
            refine v_lcmp_lt (tgt := 153) dX13_gaps_146 dX13_gaps_147 (by decide) (fun c_147 => ?_) (fun c_147 => ?_)
            · refine v_aload_n dX13_gaps_153 rfl 11 rfl ?_
              refine v_getf 49 (ci := 11) (C := RX13) (T := TX13) (N := 71) rfl iwX13_gaps_X13 (Nat.le_of_ble_eq_true rfl) (by decide +kernel) dX13_gaps_154 (by first | with_reducible assumption) (by repeat (first | with_reducible assumption | (with_reducible refine (sv_ls (by first | omega | (simp only [List.length_set]; omega))).trans ?_; exact rfl) | with_reducible refine (List.getElem?_set_ne (by decide)).trans ?_)) ?_
              refine v_iload dX13_gaps_157 2 rfl ?_
              refine v_laldS (v := jN (itM (cc v) ii).2.1) dX13_gaps_159 (by first | with_reducible assumption) (vp_in_nI (by omega) (by omega)) (by rw [nI_clamp (by omega)]; exact q3) ?_
              refine v_aload_n dX13_gaps_160 rfl 11 rfl ?_
              refine v_getf 49 (ci := 11) (C := RX13) (T := TX13) (N := 71) rfl iwX13_gaps_X13 (Nat.le_of_ble_eq_true rfl) (by decide +kernel) dX13_gaps_161 (by first | with_reducible assumption) (by repeat (first | with_reducible assumption | (with_reducible refine (sv_ls (by first | omega | (simp only [List.length_set]; omega))).trans ?_; exact rfl) | with_reducible refine (List.getElem?_set_ne (by decide)).trans ?_)) ?_
              refine v_iload dX13_gaps_164 1 rfl ?_
              refine v_laldS (v := jN (itM (cc w) jj).2.1) dX13_gaps_166 (by first | with_reducible assumption) (vp_in_nI (by omega) (by omega)) (by rw [nI_clamp (by omega)]; exact p3_) ?_
              refine v_callSq (M' := mX13_most) (n := 2) (As := [_, _]) ggX13_gaps_X13_most (by decide +kernel) (by decide +kernel) (by decide +kernel) rfl (by decide +kernel) ⟨(Nat.le_of_ble_eq_true rfl), (Nat.le_of_ble_eq_true rfl)⟩ dX13_gaps_167 rfl ⟨(Nat.le_of_ble_eq_true rfl), (Nat.le_of_ble_eq_true rfl)⟩ (Nat.le_of_ble_eq_true rfl) rfl (m_mostI G _ _ a2 e2) (fun v9 h9 y9 hq => v_pq hq ?_)
              refine v_lstore (L' := [(14, _), (12, _), (11, _), (10, _), (9, _), (8, _), (7, _), (5, _), (4, _), (3, _), (2, _), (1, _), (0, _)]) dX13_gaps_170 (Nat.le_of_ble_eq_true rfl) rfl ?_
              refine v_aload_n dX13_gaps_172 rfl 12 rfl ?_
              refine v_getf 50 (ci := 11) (C := RX13) (T := TX13) (N := 71) rfl iwX13_gaps_X13 (Nat.le_of_ble_eq_true rfl) (by decide +kernel) dX13_gaps_173 (by first | with_reducible assumption) (by repeat (first | with_reducible assumption | (with_reducible refine (sv_ls (by first | omega | (simp only [List.length_set]; omega))).trans ?_; exact rfl) | with_reducible refine (List.getElem?_set_ne (by decide)).trans ?_)) ?_
              refine v_iload dX13_gaps_176 3 rfl ?_
              refine v_laldS (v := jN (itM (cc v) ii).2.2) dX13_gaps_178 (by first | with_reducible assumption) (vp_in_nI (by omega) (by omega)) (by rw [nI_clamp (by omega)]; exact q4) ?_
              refine v_aload_n dX13_gaps_179 rfl 12 rfl ?_
              refine v_getf 50 (ci := 11) (C := RX13) (T := TX13) (N := 71) rfl iwX13_gaps_X13 (Nat.le_of_ble_eq_true rfl) (by decide +kernel) dX13_gaps_180 (by first | with_reducible assumption) (by repeat (first | with_reducible assumption | (with_reducible refine (sv_ls (by first | omega | (simp only [List.length_set]; omega))).trans ?_; exact rfl) | with_reducible refine (List.getElem?_set_ne (by decide)).trans ?_)) ?_
              refine v_iload dX13_gaps_183 2 rfl ?_
              refine v_laldS (v := jN (itM (cc w) jj).2.2) dX13_gaps_185 (by first | with_reducible assumption) (vp_in_nI (by omega) (by omega)) (by rw [nI_clamp (by omega)]; exact p4_) ?_
              refine v_callSq (M' := mX13_least) (n := 2) (As := [_, _]) ggX13_gaps_X13_least (by decide +kernel) (by decide +kernel) (by decide +kernel) rfl (by decide +kernel) ⟨(Nat.le_of_ble_eq_true rfl), (Nat.le_of_ble_eq_true rfl)⟩ dX13_gaps_186 rfl ⟨(Nat.le_of_ble_eq_true rfl), (Nat.le_of_ble_eq_true rfl)⟩ (Nat.le_of_ble_eq_true rfl) rfl (m_leastI G _ _ a3 e3) (fun v9 h9 y9 hq => v_pq hq ?_)
              refine v_lstore (L' := [(16, _), (14, _), (12, _), (11, _), (10, _), (9, _), (8, _), (7, _), (5, _), (4, _), (3, _), (2, _), (1, _), (0, _)]) dX13_gaps_189 (Nat.le_of_ble_eq_true rfl) rfl ?_
              refine v_aload_n dX13_gaps_191 rfl 13 rfl ?_
              refine v_getf 25 (ci := 11) (C := RX13) (T := TX13) (N := 71) rfl iwX13_gaps_X13 (Nat.le_of_ble_eq_true rfl) (by decide +kernel) dX13_gaps_192 (by first | with_reducible assumption) (by repeat (first | with_reducible assumption | (with_reducible refine (sv_ls (by first | omega | (simp only [List.length_set]; omega))).trans ?_; exact rfl) | with_reducible refine (List.getElem?_set_ne (by decide)).trans ?_)) ?_
              refine v_aload_n dX13_gaps_195 rfl 13 rfl ?_
              refine v_getf 58 (ci := 11) (C := RX13) (T := TX13) (N := 71) rfl iwX13_gaps_X13 (Nat.le_of_ble_eq_true rfl) (by decide +kernel) dX13_gaps_196 (by first | with_reducible assumption) (by repeat (first | with_reducible assumption | (with_reducible refine (sv_ls (by first | omega | (simp only [List.length_set]; omega))).trans ?_; exact rfl) | with_reducible refine (List.getElem?_set_ne (by decide)).trans ?_)) ?_
              refine v_laldS (v := jN x6.toInt) dX13_gaps_199 (by first | with_reducible assumption) (vp_in_nI (by omega) (by omega)) (by rw [nI_clamp (by omega)]; exact r39a) ?_
              refine v_lconst (v := 0) dX13_gaps_200 (by decide) ?_
              refine v_lcmp_lt (tgt := 261) dX13_gaps_201 dX13_gaps_202 (by decide) (fun c_202 => ?_) (fun c_202 => ?_)
              · refine v_iconst (v := 1) dX13_gaps_261 (by decide) ?_
                refine v_goto (tgt := 266) dX13_gaps_262 (by decide) ?_
                refine v_istore (L' := [(18, _), (16, _), (14, _), (12, _), (11, _), (10, _), (9, _), (8, _), (7, _), (5, _), (4, _), (3, _), (2, _), (1, _), (0, _)]) dX13_gaps_266 (Nat.le_of_ble_eq_true rfl) rfl ?_
                refine v_lload dX13_gaps_268 1 rfl ?_
                refine v_lload dX13_gaps_270 2 rfl ?_
                refine v_lsub dX13_gaps_272 ?_
                rw [← jN_sub]
                refine v_aload_n dX13_gaps_273 rfl 14 rfl ?_
                refine v_getf 23 (ci := 11) (C := RX13) (T := TX13) (N := 71) rfl iwX13_gaps_X13 (Nat.le_of_ble_eq_true rfl) (by decide +kernel) dX13_gaps_274 (by first | with_reducible assumption) (by repeat (first | with_reducible assumption | (with_reducible refine (sv_ls (by first | omega | (simp only [List.length_set]; omega))).trans ?_; exact rfl) | with_reducible refine (List.getElem?_set_ne (by decide)).trans ?_)) ?_
                refine v_aload_n dX13_gaps_277 rfl 14 rfl ?_
                refine v_getf 58 (ci := 11) (C := RX13) (T := TX13) (N := 71) rfl iwX13_gaps_X13 (Nat.le_of_ble_eq_true rfl) (by decide +kernel) dX13_gaps_278 (by first | with_reducible assumption) (by repeat (first | with_reducible assumption | (with_reducible refine (sv_ls (by first | omega | (simp only [List.length_set]; omega))).trans ?_; exact rfl) | with_reducible refine (List.getElem?_set_ne (by decide)).trans ?_)) ?_
                refine v_laldS (v := jN (lrn x4).toInt) dX13_gaps_281 (by first | with_reducible assumption) (vp_in_nI (by omega) (by omega)) (by rw [nI_clamp (by omega)]; exact r37a) ?_
                refine v_lcmp_lt (tgt := 359) dX13_gaps_282 dX13_gaps_283 (by decide) (fun c_283 => ?_) (fun c_283 => ?_)
                · refine v_iinc (j := 4) (L' := [(11, _), (18, _), (16, _), (14, _), (12, _), (10, _), (9, _), (8, _), (7, _), (5, _), (4, _), (3, _), (2, _), (1, _), (0, _)]) (v := nI (16 * w + (jj + 1))) dX13_gaps_359 rfl (nI_1 _) (Nat.le_of_ble_eq_true rfl) rfl ?_
                  refine v_goto (tgt := 71) dX13_gaps_362 (by decide) ?_
                  refine v_sub (L' := [(11, _), (10, _), (9, _), (8, _), (7, _), (5, _), (4, _), (3, _), (2, _), (1, _), (0, _)]) [0, 5, 6, 7, 8, 9, 10, 11, 12, 13, 14] rfl ?_
                  first
                    | exact absurd (show (1 : Int32) = 0 from c_288) (by decide)
                    | exact absurd rfl (show ¬ (0 : Int32) = 0 from c_288)
                    | (have c9 := T1
                       refine ih (jj + 1) h1 fs1 (by omega) u1 u2 u3 u4 ?_
                       rw [rgm_s, ← List.append_assoc, show (gpR (mvW mp ((O.getD o ([], 0)).1.take d)) fV fW near x3.toInt (lrn x4).toInt x6 a c (mc : Int) (fcM (twS (cc v) (n v)) (cc v)) (fcM (twS (cc w) (n w)) (cc w)) (itM (cc v)) (itM (cc w)) ii jj) = [_] from (if_pos ⟨hf1, hf2⟩).trans (congrArg (List.map (mvR (mvW mp ((O.getD o ([], 0)).1.take d)))) (if_pos hcon))]
                       first
                         | (rw [if_pos (show upr fV = true from (upr_2 fV hfV).trans (decide_eq_true c_297))]; exact c9)
                         | (rw [if_neg (show ¬ upr fV = true from fun e9 => c_297 (of_decide_eq_true ((upr_2 fV hfV).symm.trans e9)))]; exact c9))
                    | (refine ih (jj + 1) h fs (by omega) hm9 hl hE fr ?_
                       rw [rgm_s, show (gpR (mvW mp ((O.getD o ([], 0)).1.take d)) fV fW near x3.toInt (lrn x4).toInt x6 a c (mc : Int) (fcM (twS (cc v) (n v)) (cc v)) (fcM (twS (cc w) (n w)) (cc w)) (itM (cc v)) (itM (cc w)) ii jj) = [] from ?_, List.append_nil]
                       · exact T
                       · first
                           | exact if_neg (fun r9 => c_112 (congrArg nI r9.1))
                           | exact if_neg (fun r9 => c_124 (congrArg nI r9.2))
                           | (unfold gpR
                              split
                              · rw [show acR (upr fV) near x3.toInt (lrn x4).toInt x6 a c (mc : Int) (itM (cc v) ii) (itM (cc w) jj) = [] from if_neg (fun r9 => (by
                                  first
                                    | exact absurd ((jN_lt (by omega) (by omega) (by omega) (by omega)).mp c_132) (Int.not_lt.mpr r9.1)
                                    | exact absurd ((jN_lt (by omega) (by omega) (by omega) (by omega)).mpr r9.2.1) c_147
                                    | exact absurd ((jN_lt (by omega) (by omega) (by omega) (by omega)).mp c_283) (Int.not_lt.mpr r9.2.2.1)
                                    | (have g1 := mt (jN_lt (b := 0) (by omega) (by omega) (by omega) (by omega)).mpr c_202
                                       have g2 := mt (jN_lt (by omega) (by omega) (by omega) (by omega)).mpr c_230
                                       have g3 := (jN_le (by omega) (by omega) (by omega) (by omega)).mp c_258
                                       rcases r9.2.2.2 with e9 | e9
                                       · rw [e9] at g1
                                         exact g1 (by decide)
                                       · omega)))]
                                rfl
                              · rfl))
                · refine v_iload dX13_gaps_286 0 rfl ?_
                  refine v_if_ne (tgt := 294) dX13_gaps_288 (by decide) (fun c_288 => ?_) (fun c_288 => ?_)
                  · refine v_iload_n dX13_gaps_294 rfl 12 rfl ?_
                    refine v_iconst (v := 2) dX13_gaps_295 (by decide) ?_
                    refine v_irem dX13_gaps_296 (by decide) ?_
                    rw [fv_rem fV hfV]
                    refine v_if_ne (tgt := 331) dX13_gaps_297 (by decide) (fun c_297 => ?_) (fun c_297 => ?_)
                    · have hf1 : (fcM (twS (cc v) (n v)) (cc v)) ii = fV := nI_inj4 _ (fcM_4 _ _ _) _ hfV (by first | exact c_112 | exact Decidable.of_not_not c_112)
                      have hf2 : (fcM (twS (cc w) (n w)) (cc w)) jj = fW := nI_inj4 _ (fcM_4 _ _ _) _ hfW (by first | exact c_124 | exact Decidable.of_not_not c_124)
                      have hcon : near ≤ (itM (cc w) jj).1 - (itM (cc v) ii).1 ∧ (itM (cc w) jj).1 - (itM (cc v) ii).1 < x3.toInt ∧ (lrn x4).toInt ≤ min (itM (cc v) ii).2.2 (itM (cc w) jj).2.2 - max (itM (cc v) ii).2.1 (itM (cc w) jj).2.1 ∧ (x6 = -1 ∨ min ((itM (cc v) ii).2.2 - (itM (cc v) ii).2.1) ((itM (cc w) jj).2.2 - (itM (cc w) jj).2.1) < x6.toInt) := ⟨Int.not_lt.mp (mt (jN_lt (by omega) (by omega) (by omega) (by omega)).mpr c_132), (jN_lt (by omega) (by omega) (by omega) (by omega)).mp c_147, Int.not_lt.mp (mt (jN_lt (by omega) (by omega) (by omega) (by omega)).mpr c_283), (by
                        first
                          | (have g9 : x6.toInt < 0 := (jN_lt (b := 0) (by omega) (by omega) (by omega) (by omega)).mp c_202
                             rcases hen with e9 | e9
                             · exact Or.inl e9
                             · rw [Int32.le_iff_toInt_le] at e9
                               have e8 : (0 : Int32).toInt = 0 := rfl
                               omega)
                          | (have g9 := (jN_lt (by omega) (by omega) (by omega) (by omega)).mp c_230
                             exact Or.inr (by omega))
                          | (have g9 := mt (jN_le (by omega) (by omega) (by omega) (by omega)).mpr c_258
                             exact Or.inr (by omega))
                          | exact absurd rfl (show ¬ (0 : Int32) = 0 from c_288))⟩
                      refine v_aload_n dX13_gaps_331 rfl 14 rfl ?_
                      refine v_lload dX13_gaps_332 2 rfl ?_
                      refine v_aload_n dX13_gaps_334 rfl 14 rfl ?_
                      refine v_getf 48 (ci := 11) (C := RX13) (T := TX13) (N := 71) rfl iwX13_gaps_X13 (Nat.le_of_ble_eq_true rfl) (by decide +kernel) dX13_gaps_335 (by first | with_reducible assumption) (by repeat (first | with_reducible assumption | (with_reducible refine (sv_ls (by first | omega | (simp only [List.length_set]; omega))).trans ?_; exact rfl) | with_reducible refine (List.getElem?_set_ne (by decide)).trans ?_)) ?_
                      refine v_iload dX13_gaps_338 5 rfl ?_
                      refine v_laldS (v := jN (itM (cc v) ii).1) dX13_gaps_340 (by first | with_reducible assumption) (vp_in_nI (by omega) (by omega)) (by rw [nI_clamp (by omega)]; exact q2) ?_
                      refine v_lload dX13_gaps_341 1 rfl ?_
                      refine v_aload_n dX13_gaps_343 rfl 14 rfl ?_
                      refine v_getf 48 (ci := 11) (C := RX13) (T := TX13) (N := 71) rfl iwX13_gaps_X13 (Nat.le_of_ble_eq_true rfl) (by decide +kernel) dX13_gaps_344 (by first | with_reducible assumption) (by repeat (first | with_reducible assumption | (with_reducible refine (sv_ls (by first | omega | (simp only [List.length_set]; omega))).trans ?_; exact rfl) | with_reducible refine (List.getElem?_set_ne (by decide)).trans ?_)) ?_
                      refine v_iload dX13_gaps_347 4 rfl ?_
                      refine v_laldS (v := jN (itM (cc w) jj).1) dX13_gaps_349 (by first | with_reducible assumption) (vp_in_nI (by omega) (by omega)) (by rw [nI_clamp (by omega)]; exact p2) ?_
                      refine v_iload dX13_gaps_350 7 rfl ?_
                      refine v_iload dX13_gaps_352 6 rfl ?_
                      refine v_lload dX13_gaps_354 3 rfl ?_
                      refine v_callVq (M' := mX13_tell) (n := 7) (As := [_, _, _, _, _, _, _]) (ci := 11) (r := (RX13, TX13, 71)) gX13_gaps_X13_tell rfl (by decide +kernel) ⟨(Nat.le_of_ble_eq_true rfl), (Nat.le_of_ble_eq_true rfl)⟩ rfl rfl dX13_gaps_356 rfl ⟨(Nat.le_of_ble_eq_true rfl), (Nat.le_of_ble_eq_true rfl)⟩ (Nat.le_of_ble_eq_true rfl) (by first | with_reducible assumption) rfl (m_tell G _ b nc np pl R hm p3 p4 sz ly vo mp X Y hb fs0 hq0 MY O MO o ho how d hd h60 h61 mc hmc h62 hMB h fs hm9 hl hE fr _ T (max (itM (cc v) ii).2.1 (itM (cc w) jj).2.1) (itM (cc v) ii).1 (min (itM (cc v) ii).2.2 (itM (cc w) jj).2.2) (itM (cc w) jj).1 a c ((itM (cc w) jj).1 - (itM (cc v) ii).1) (by omega) (by omega) (by omega) (by omega) (by omega) (by omega)) (fun v9 h1 z1 hq9 => ?_)
                      obtain ⟨rfl, rfl, fs1, u1, u2, u3, u4, T1⟩ := hq9
                      refine v_iinc (j := 4) (L' := [(11, _), (18, _), (16, _), (14, _), (12, _), (10, _), (9, _), (8, _), (7, _), (5, _), (4, _), (3, _), (2, _), (1, _), (0, _)]) (v := nI (16 * w + (jj + 1))) dX13_gaps_359 rfl (nI_1 _) (Nat.le_of_ble_eq_true rfl) rfl ?_
                      refine v_goto (tgt := 71) dX13_gaps_362 (by decide) ?_
                      refine v_sub (L' := [(11, _), (10, _), (9, _), (8, _), (7, _), (5, _), (4, _), (3, _), (2, _), (1, _), (0, _)]) [0, 5, 6, 7, 8, 9, 10, 11, 12, 13, 14] rfl ?_
                      first
                        | exact absurd (show (1 : Int32) = 0 from c_288) (by decide)
                        | exact absurd rfl (show ¬ (0 : Int32) = 0 from c_288)
                        | (have c9 := T1
                           refine ih (jj + 1) h1 fs1 (by omega) u1 u2 u3 u4 ?_
                           rw [rgm_s, ← List.append_assoc, show (gpR (mvW mp ((O.getD o ([], 0)).1.take d)) fV fW near x3.toInt (lrn x4).toInt x6 a c (mc : Int) (fcM (twS (cc v) (n v)) (cc v)) (fcM (twS (cc w) (n w)) (cc w)) (itM (cc v)) (itM (cc w)) ii jj) = [_] from (if_pos ⟨hf1, hf2⟩).trans (congrArg (List.map (mvR (mvW mp ((O.getD o ([], 0)).1.take d)))) (if_pos hcon))]
                           first
                             | (rw [if_pos (show upr fV = true from (upr_2 fV hfV).trans (decide_eq_true c_297))]; exact c9)
                             | (rw [if_neg (show ¬ upr fV = true from fun e9 => c_297 (of_decide_eq_true ((upr_2 fV hfV).symm.trans e9)))]; exact c9))
                        | (refine ih (jj + 1) h fs (by omega) hm9 hl hE fr ?_
                           rw [rgm_s, show (gpR (mvW mp ((O.getD o ([], 0)).1.take d)) fV fW near x3.toInt (lrn x4).toInt x6 a c (mc : Int) (fcM (twS (cc v) (n v)) (cc v)) (fcM (twS (cc w) (n w)) (cc w)) (itM (cc v)) (itM (cc w)) ii jj) = [] from ?_, List.append_nil]
                           · exact T
                           · first
                               | exact if_neg (fun r9 => c_112 (congrArg nI r9.1))
                               | exact if_neg (fun r9 => c_124 (congrArg nI r9.2))
                               | (unfold gpR
                                  split
                                  · rw [show acR (upr fV) near x3.toInt (lrn x4).toInt x6 a c (mc : Int) (itM (cc v) ii) (itM (cc w) jj) = [] from if_neg (fun r9 => (by
                                      first
                                        | exact absurd ((jN_lt (by omega) (by omega) (by omega) (by omega)).mp c_132) (Int.not_lt.mpr r9.1)
                                        | exact absurd ((jN_lt (by omega) (by omega) (by omega) (by omega)).mpr r9.2.1) c_147
                                        | exact absurd ((jN_lt (by omega) (by omega) (by omega) (by omega)).mp c_283) (Int.not_lt.mpr r9.2.2.1)
                                        | (have g1 := mt (jN_lt (b := 0) (by omega) (by omega) (by omega) (by omega)).mpr c_202
                                           have g2 := mt (jN_lt (by omega) (by omega) (by omega) (by omega)).mpr c_230
                                           have g3 := (jN_le (by omega) (by omega) (by omega) (by omega)).mp c_258
                                           rcases r9.2.2.2 with e9 | e9
                                           · rw [e9] at g1
                                             exact g1 (by decide)
                                           · omega)))]
                                    rfl
                                  · rfl))
                    · have hf1 : (fcM (twS (cc v) (n v)) (cc v)) ii = fV := nI_inj4 _ (fcM_4 _ _ _) _ hfV (by first | exact c_112 | exact Decidable.of_not_not c_112)
                      have hf2 : (fcM (twS (cc w) (n w)) (cc w)) jj = fW := nI_inj4 _ (fcM_4 _ _ _) _ hfW (by first | exact c_124 | exact Decidable.of_not_not c_124)
                      have hcon : near ≤ (itM (cc w) jj).1 - (itM (cc v) ii).1 ∧ (itM (cc w) jj).1 - (itM (cc v) ii).1 < x3.toInt ∧ (lrn x4).toInt ≤ min (itM (cc v) ii).2.2 (itM (cc w) jj).2.2 - max (itM (cc v) ii).2.1 (itM (cc w) jj).2.1 ∧ (x6 = -1 ∨ min ((itM (cc v) ii).2.2 - (itM (cc v) ii).2.1) ((itM (cc w) jj).2.2 - (itM (cc w) jj).2.1) < x6.toInt) := ⟨Int.not_lt.mp (mt (jN_lt (by omega) (by omega) (by omega) (by omega)).mpr c_132), (jN_lt (by omega) (by omega) (by omega) (by omega)).mp c_147, Int.not_lt.mp (mt (jN_lt (by omega) (by omega) (by omega) (by omega)).mpr c_283), (by
                        first
                          | (have g9 : x6.toInt < 0 := (jN_lt (b := 0) (by omega) (by omega) (by omega) (by omega)).mp c_202
                             rcases hen with e9 | e9
                             · exact Or.inl e9
                             · rw [Int32.le_iff_toInt_le] at e9
                               have e8 : (0 : Int32).toInt = 0 := rfl
                               omega)
                          | (have g9 := (jN_lt (by omega) (by omega) (by omega) (by omega)).mp c_230
                             exact Or.inr (by omega))
                          | (have g9 := mt (jN_le (by omega) (by omega) (by omega) (by omega)).mpr c_258
                             exact Or.inr (by omega))
                          | exact absurd rfl (show ¬ (0 : Int32) = 0 from c_288))⟩
                      refine v_aload_n dX13_gaps_300 rfl 14 rfl ?_
                      refine v_aload_n dX13_gaps_301 rfl 14 rfl ?_
                      refine v_getf 48 (ci := 11) (C := RX13) (T := TX13) (N := 71) rfl iwX13_gaps_X13 (Nat.le_of_ble_eq_true rfl) (by decide +kernel) dX13_gaps_302 (by first | with_reducible assumption) (by repeat (first | with_reducible assumption | (with_reducible refine (sv_ls (by first | omega | (simp only [List.length_set]; omega))).trans ?_; exact rfl) | with_reducible refine (List.getElem?_set_ne (by decide)).trans ?_)) ?_
                      refine v_iload dX13_gaps_305 5 rfl ?_
                      refine v_laldS (v := jN (itM (cc v) ii).1) dX13_gaps_307 (by first | with_reducible assumption) (vp_in_nI (by omega) (by omega)) (by rw [nI_clamp (by omega)]; exact q2) ?_
                      refine v_lload dX13_gaps_308 2 rfl ?_
                      refine v_aload_n dX13_gaps_310 rfl 14 rfl ?_
                      refine v_getf 48 (ci := 11) (C := RX13) (T := TX13) (N := 71) rfl iwX13_gaps_X13 (Nat.le_of_ble_eq_true rfl) (by decide +kernel) dX13_gaps_311 (by first | with_reducible assumption) (by repeat (first | with_reducible assumption | (with_reducible refine (sv_ls (by first | omega | (simp only [List.length_set]; omega))).trans ?_; exact rfl) | with_reducible refine (List.getElem?_set_ne (by decide)).trans ?_)) ?_
                      refine v_iload dX13_gaps_314 4 rfl ?_
                      refine v_laldS (v := jN (itM (cc w) jj).1) dX13_gaps_316 (by first | with_reducible assumption) (vp_in_nI (by omega) (by omega)) (by rw [nI_clamp (by omega)]; exact p2) ?_
                      refine v_lload dX13_gaps_317 1 rfl ?_
                      refine v_iload dX13_gaps_319 7 rfl ?_
                      refine v_iload dX13_gaps_321 6 rfl ?_
                      refine v_lload dX13_gaps_323 3 rfl ?_
                      refine v_callVq (M' := mX13_tell) (n := 7) (As := [_, _, _, _, _, _, _]) (ci := 11) (r := (RX13, TX13, 71)) gX13_gaps_X13_tell rfl (by decide +kernel) ⟨(Nat.le_of_ble_eq_true rfl), (Nat.le_of_ble_eq_true rfl)⟩ rfl rfl dX13_gaps_325 rfl ⟨(Nat.le_of_ble_eq_true rfl), (Nat.le_of_ble_eq_true rfl)⟩ (Nat.le_of_ble_eq_true rfl) (by first | with_reducible assumption) rfl (m_tell G _ b nc np pl R hm p3 p4 sz ly vo mp X Y hb fs0 hq0 MY O MO o ho how d hd h60 h61 mc hmc h62 hMB h fs hm9 hl hE fr _ T (itM (cc v) ii).1 (max (itM (cc v) ii).2.1 (itM (cc w) jj).2.1) (itM (cc w) jj).1 (min (itM (cc v) ii).2.2 (itM (cc w) jj).2.2) a c ((itM (cc w) jj).1 - (itM (cc v) ii).1) (by omega) (by omega) (by omega) (by omega) (by omega) (by omega)) (fun v9 h1 z1 hq9 => ?_)
                      obtain ⟨rfl, rfl, fs1, u1, u2, u3, u4, T1⟩ := hq9
                      refine v_goto (tgt := 359) dX13_gaps_328 (by decide) ?_
                      refine v_iinc (j := 4) (L' := [(11, _), (18, _), (16, _), (14, _), (12, _), (10, _), (9, _), (8, _), (7, _), (5, _), (4, _), (3, _), (2, _), (1, _), (0, _)]) (v := nI (16 * w + (jj + 1))) dX13_gaps_359 rfl (nI_1 _) (Nat.le_of_ble_eq_true rfl) rfl ?_
                      refine v_goto (tgt := 71) dX13_gaps_362 (by decide) ?_
                      refine v_sub (L' := [(11, _), (10, _), (9, _), (8, _), (7, _), (5, _), (4, _), (3, _), (2, _), (1, _), (0, _)]) [0, 5, 6, 7, 8, 9, 10, 11, 12, 13, 14] rfl ?_
                      first
                        | exact absurd (show (1 : Int32) = 0 from c_288) (by decide)
                        | exact absurd rfl (show ¬ (0 : Int32) = 0 from c_288)
                        | (have c9 := T1
                           refine ih (jj + 1) h1 fs1 (by omega) u1 u2 u3 u4 ?_
                           rw [rgm_s, ← List.append_assoc, show (gpR (mvW mp ((O.getD o ([], 0)).1.take d)) fV fW near x3.toInt (lrn x4).toInt x6 a c (mc : Int) (fcM (twS (cc v) (n v)) (cc v)) (fcM (twS (cc w) (n w)) (cc w)) (itM (cc v)) (itM (cc w)) ii jj) = [_] from (if_pos ⟨hf1, hf2⟩).trans (congrArg (List.map (mvR (mvW mp ((O.getD o ([], 0)).1.take d)))) (if_pos hcon))]
                           first
                             | (rw [if_pos (show upr fV = true from (upr_2 fV hfV).trans (decide_eq_true c_297))]; exact c9)
                             | (rw [if_neg (show ¬ upr fV = true from fun e9 => c_297 (of_decide_eq_true ((upr_2 fV hfV).symm.trans e9)))]; exact c9))
                        | (refine ih (jj + 1) h fs (by omega) hm9 hl hE fr ?_
                           rw [rgm_s, show (gpR (mvW mp ((O.getD o ([], 0)).1.take d)) fV fW near x3.toInt (lrn x4).toInt x6 a c (mc : Int) (fcM (twS (cc v) (n v)) (cc v)) (fcM (twS (cc w) (n w)) (cc w)) (itM (cc v)) (itM (cc w)) ii jj) = [] from ?_, List.append_nil]
                           · exact T
                           · first
                               | exact if_neg (fun r9 => c_112 (congrArg nI r9.1))
                               | exact if_neg (fun r9 => c_124 (congrArg nI r9.2))
                               | (unfold gpR
                                  split
                                  · rw [show acR (upr fV) near x3.toInt (lrn x4).toInt x6 a c (mc : Int) (itM (cc v) ii) (itM (cc w) jj) = [] from if_neg (fun r9 => (by
                                      first
                                        | exact absurd ((jN_lt (by omega) (by omega) (by omega) (by omega)).mp c_132) (Int.not_lt.mpr r9.1)
                                        | exact absurd ((jN_lt (by omega) (by omega) (by omega) (by omega)).mpr r9.2.1) c_147
                                        | exact absurd ((jN_lt (by omega) (by omega) (by omega) (by omega)).mp c_283) (Int.not_lt.mpr r9.2.2.1)
                                        | (have g1 := mt (jN_lt (b := 0) (by omega) (by omega) (by omega) (by omega)).mpr c_202
                                           have g2 := mt (jN_lt (by omega) (by omega) (by omega) (by omega)).mpr c_230
                                           have g3 := (jN_le (by omega) (by omega) (by omega) (by omega)).mp c_258
                                           rcases r9.2.2.2 with e9 | e9
                                           · rw [e9] at g1
                                             exact g1 (by decide)
                                           · omega)))]
                                    rfl
                                  · rfl))
                  · refine v_goto (tgt := 359) dX13_gaps_291 (by decide) ?_
                    refine v_iinc (j := 4) (L' := [(11, _), (18, _), (16, _), (14, _), (12, _), (10, _), (9, _), (8, _), (7, _), (5, _), (4, _), (3, _), (2, _), (1, _), (0, _)]) (v := nI (16 * w + (jj + 1))) dX13_gaps_359 rfl (nI_1 _) (Nat.le_of_ble_eq_true rfl) rfl ?_
                    refine v_goto (tgt := 71) dX13_gaps_362 (by decide) ?_
                    refine v_sub (L' := [(11, _), (10, _), (9, _), (8, _), (7, _), (5, _), (4, _), (3, _), (2, _), (1, _), (0, _)]) [0, 5, 6, 7, 8, 9, 10, 11, 12, 13, 14] rfl ?_
                    first
                      | exact absurd (show (1 : Int32) = 0 from c_288) (by decide)
                      | exact absurd rfl (show ¬ (0 : Int32) = 0 from c_288)
                      | (have c9 := T1
                         refine ih (jj + 1) h1 fs1 (by omega) u1 u2 u3 u4 ?_
                         rw [rgm_s, ← List.append_assoc, show (gpR (mvW mp ((O.getD o ([], 0)).1.take d)) fV fW near x3.toInt (lrn x4).toInt x6 a c (mc : Int) (fcM (twS (cc v) (n v)) (cc v)) (fcM (twS (cc w) (n w)) (cc w)) (itM (cc v)) (itM (cc w)) ii jj) = [_] from (if_pos ⟨hf1, hf2⟩).trans (congrArg (List.map (mvR (mvW mp ((O.getD o ([], 0)).1.take d)))) (if_pos hcon))]
                         first
                           | (rw [if_pos (show upr fV = true from (upr_2 fV hfV).trans (decide_eq_true c_297))]; exact c9)
                           | (rw [if_neg (show ¬ upr fV = true from fun e9 => c_297 (of_decide_eq_true ((upr_2 fV hfV).symm.trans e9)))]; exact c9))
                      | (refine ih (jj + 1) h fs (by omega) hm9 hl hE fr ?_
                         rw [rgm_s, show (gpR (mvW mp ((O.getD o ([], 0)).1.take d)) fV fW near x3.toInt (lrn x4).toInt x6 a c (mc : Int) (fcM (twS (cc v) (n v)) (cc v)) (fcM (twS (cc w) (n w)) (cc w)) (itM (cc v)) (itM (cc w)) ii jj) = [] from ?_, List.append_nil]
                         · exact T
                         · first
                             | exact if_neg (fun r9 => c_112 (congrArg nI r9.1))
                             | exact if_neg (fun r9 => c_124 (congrArg nI r9.2))
                             | (unfold gpR
                                split
                                · rw [show acR (upr fV) near x3.toInt (lrn x4).toInt x6 a c (mc : Int) (itM (cc v) ii) (itM (cc w) jj) = [] from if_neg (fun r9 => (by
                                    first
                                      | exact absurd ((jN_lt (by omega) (by omega) (by omega) (by omega)).mp c_132) (Int.not_lt.mpr r9.1)
                                      | exact absurd ((jN_lt (by omega) (by omega) (by omega) (by omega)).mpr r9.2.1) c_147
                                      | exact absurd ((jN_lt (by omega) (by omega) (by omega) (by omega)).mp c_283) (Int.not_lt.mpr r9.2.2.1)
                                      | (have g1 := mt (jN_lt (b := 0) (by omega) (by omega) (by omega) (by omega)).mpr c_202
                                         have g2 := mt (jN_lt (by omega) (by omega) (by omega) (by omega)).mpr c_230
                                         have g3 := (jN_le (by omega) (by omega) (by omega) (by omega)).mp c_258
                                         rcases r9.2.2.2 with e9 | e9
                                         · rw [e9] at g1
                                           exact g1 (by decide)
                                         · omega)))]
                                  rfl
                                · rfl))
              · refine v_aload_n dX13_gaps_205 rfl 13 rfl ?_
                refine v_getf 50 (ci := 11) (C := RX13) (T := TX13) (N := 71) rfl iwX13_gaps_X13 (Nat.le_of_ble_eq_true rfl) (by decide +kernel) dX13_gaps_206 (by first | with_reducible assumption) (by repeat (first | with_reducible assumption | (with_reducible refine (sv_ls (by first | omega | (simp only [List.length_set]; omega))).trans ?_; exact rfl) | with_reducible refine (List.getElem?_set_ne (by decide)).trans ?_)) ?_
                refine v_iload dX13_gaps_209 4 rfl ?_
                refine v_laldS (v := jN (itM (cc v) ii).2.2) dX13_gaps_211 (by first | with_reducible assumption) (vp_in_nI (by omega) (by omega)) (by rw [nI_clamp (by omega)]; exact q4) ?_
                refine v_aload_n dX13_gaps_212 rfl 13 rfl ?_
                refine v_getf 49 (ci := 11) (C := RX13) (T := TX13) (N := 71) rfl iwX13_gaps_X13 (Nat.le_of_ble_eq_true rfl) (by decide +kernel) dX13_gaps_213 (by first | with_reducible assumption) (by repeat (first | with_reducible assumption | (with_reducible refine (sv_ls (by first | omega | (simp only [List.length_set]; omega))).trans ?_; exact rfl) | with_reducible refine (List.getElem?_set_ne (by decide)).trans ?_)) ?_
                refine v_iload dX13_gaps_216 4 rfl ?_
                refine v_laldS (v := jN (itM (cc v) ii).2.1) dX13_gaps_218 (by first | with_reducible assumption) (vp_in_nI (by omega) (by omega)) (by rw [nI_clamp (by omega)]; exact q3) ?_
                refine v_lsub dX13_gaps_219 ?_
                rw [← jN_sub]
                refine v_aload_n dX13_gaps_220 rfl 13 rfl ?_
                refine v_getf 25 (ci := 11) (C := RX13) (T := TX13) (N := 71) rfl iwX13_gaps_X13 (Nat.le_of_ble_eq_true rfl) (by decide +kernel) dX13_gaps_221 (by first | with_reducible assumption) (by repeat (first | with_reducible assumption | (with_reducible refine (sv_ls (by first | omega | (simp only [List.length_set]; omega))).trans ?_; exact rfl) | with_reducible refine (List.getElem?_set_ne (by decide)).trans ?_)) ?_
                refine v_aload_n dX13_gaps_224 rfl 13 rfl ?_
                refine v_getf 58 (ci := 11) (C := RX13) (T := TX13) (N := 71) rfl iwX13_gaps_X13 (Nat.le_of_ble_eq_true rfl) (by decide +kernel) dX13_gaps_225 (by first | with_reducible assumption) (by repeat (first | with_reducible assumption | (with_reducible refine (sv_ls (by first | omega | (simp only [List.length_set]; omega))).trans ?_; exact rfl) | with_reducible refine (List.getElem?_set_ne (by decide)).trans ?_)) ?_
                refine v_laldS (v := jN x6.toInt) dX13_gaps_228 (by first | with_reducible assumption) (vp_in_nI (by omega) (by omega)) (by rw [nI_clamp (by omega)]; exact r39a) ?_
                refine v_lcmp_lt (tgt := 261) dX13_gaps_229 dX13_gaps_230 (by decide) (fun c_230 => ?_) (fun c_230 => ?_)
                · refine v_iconst (v := 1) dX13_gaps_261 (by decide) ?_
                  refine v_goto (tgt := 266) dX13_gaps_262 (by decide) ?_
                  refine v_istore (L' := [(18, _), (16, _), (14, _), (12, _), (11, _), (10, _), (9, _), (8, _), (7, _), (5, _), (4, _), (3, _), (2, _), (1, _), (0, _)]) dX13_gaps_266 (Nat.le_of_ble_eq_true rfl) rfl ?_
                  refine v_lload dX13_gaps_268 1 rfl ?_
                  refine v_lload dX13_gaps_270 2 rfl ?_
                  refine v_lsub dX13_gaps_272 ?_
                  rw [← jN_sub]
                  refine v_aload_n dX13_gaps_273 rfl 14 rfl ?_
                  refine v_getf 23 (ci := 11) (C := RX13) (T := TX13) (N := 71) rfl iwX13_gaps_X13 (Nat.le_of_ble_eq_true rfl) (by decide +kernel) dX13_gaps_274 (by first | with_reducible assumption) (by repeat (first | with_reducible assumption | (with_reducible refine (sv_ls (by first | omega | (simp only [List.length_set]; omega))).trans ?_; exact rfl) | with_reducible refine (List.getElem?_set_ne (by decide)).trans ?_)) ?_
                  refine v_aload_n dX13_gaps_277 rfl 14 rfl ?_
                  refine v_getf 58 (ci := 11) (C := RX13) (T := TX13) (N := 71) rfl iwX13_gaps_X13 (Nat.le_of_ble_eq_true rfl) (by decide +kernel) dX13_gaps_278 (by first | with_reducible assumption) (by repeat (first | with_reducible assumption | (with_reducible refine (sv_ls (by first | omega | (simp only [List.length_set]; omega))).trans ?_; exact rfl) | with_reducible refine (List.getElem?_set_ne (by decide)).trans ?_)) ?_
                  refine v_laldS (v := jN (lrn x4).toInt) dX13_gaps_281 (by first | with_reducible assumption) (vp_in_nI (by omega) (by omega)) (by rw [nI_clamp (by omega)]; exact r37a) ?_
                  refine v_lcmp_lt (tgt := 359) dX13_gaps_282 dX13_gaps_283 (by decide) (fun c_283 => ?_) (fun c_283 => ?_)
                  · refine v_iinc (j := 4) (L' := [(11, _), (18, _), (16, _), (14, _), (12, _), (10, _), (9, _), (8, _), (7, _), (5, _), (4, _), (3, _), (2, _), (1, _), (0, _)]) (v := nI (16 * w + (jj + 1))) dX13_gaps_359 rfl (nI_1 _) (Nat.le_of_ble_eq_true rfl) rfl ?_
                    refine v_goto (tgt := 71) dX13_gaps_362 (by decide) ?_
                    refine v_sub (L' := [(11, _), (10, _), (9, _), (8, _), (7, _), (5, _), (4, _), (3, _), (2, _), (1, _), (0, _)]) [0, 5, 6, 7, 8, 9, 10, 11, 12, 13, 14] rfl ?_
                    first
                      | exact absurd (show (1 : Int32) = 0 from c_288) (by decide)
                      | exact absurd rfl (show ¬ (0 : Int32) = 0 from c_288)
                      | (have c9 := T1
                         refine ih (jj + 1) h1 fs1 (by omega) u1 u2 u3 u4 ?_
                         rw [rgm_s, ← List.append_assoc, show (gpR (mvW mp ((O.getD o ([], 0)).1.take d)) fV fW near x3.toInt (lrn x4).toInt x6 a c (mc : Int) (fcM (twS (cc v) (n v)) (cc v)) (fcM (twS (cc w) (n w)) (cc w)) (itM (cc v)) (itM (cc w)) ii jj) = [_] from (if_pos ⟨hf1, hf2⟩).trans (congrArg (List.map (mvR (mvW mp ((O.getD o ([], 0)).1.take d)))) (if_pos hcon))]
                         first
                           | (rw [if_pos (show upr fV = true from (upr_2 fV hfV).trans (decide_eq_true c_297))]; exact c9)
                           | (rw [if_neg (show ¬ upr fV = true from fun e9 => c_297 (of_decide_eq_true ((upr_2 fV hfV).symm.trans e9)))]; exact c9))
                      | (refine ih (jj + 1) h fs (by omega) hm9 hl hE fr ?_
                         rw [rgm_s, show (gpR (mvW mp ((O.getD o ([], 0)).1.take d)) fV fW near x3.toInt (lrn x4).toInt x6 a c (mc : Int) (fcM (twS (cc v) (n v)) (cc v)) (fcM (twS (cc w) (n w)) (cc w)) (itM (cc v)) (itM (cc w)) ii jj) = [] from ?_, List.append_nil]
                         · exact T
                         · first
                             | exact if_neg (fun r9 => c_112 (congrArg nI r9.1))
                             | exact if_neg (fun r9 => c_124 (congrArg nI r9.2))
                             | (unfold gpR
                                split
                                · rw [show acR (upr fV) near x3.toInt (lrn x4).toInt x6 a c (mc : Int) (itM (cc v) ii) (itM (cc w) jj) = [] from if_neg (fun r9 => (by
                                    first
                                      | exact absurd ((jN_lt (by omega) (by omega) (by omega) (by omega)).mp c_132) (Int.not_lt.mpr r9.1)
                                      | exact absurd ((jN_lt (by omega) (by omega) (by omega) (by omega)).mpr r9.2.1) c_147
                                      | exact absurd ((jN_lt (by omega) (by omega) (by omega) (by omega)).mp c_283) (Int.not_lt.mpr r9.2.2.1)
                                      | (have g1 := mt (jN_lt (b := 0) (by omega) (by omega) (by omega) (by omega)).mpr c_202
                                         have g2 := mt (jN_lt (by omega) (by omega) (by omega) (by omega)).mpr c_230
                                         have g3 := (jN_le (by omega) (by omega) (by omega) (by omega)).mp c_258
                                         rcases r9.2.2.2 with e9 | e9
                                         · rw [e9] at g1
                                           exact g1 (by decide)
                                         · omega)))]
                                  rfl
                                · rfl))
                  · refine v_iload dX13_gaps_286 0 rfl ?_
                    refine v_if_ne (tgt := 294) dX13_gaps_288 (by decide) (fun c_288 => ?_) (fun c_288 => ?_)
                    · refine v_iload_n dX13_gaps_294 rfl 12 rfl ?_
                      refine v_iconst (v := 2) dX13_gaps_295 (by decide) ?_
                      refine v_irem dX13_gaps_296 (by decide) ?_
                      rw [fv_rem fV hfV]
                      refine v_if_ne (tgt := 331) dX13_gaps_297 (by decide) (fun c_297 => ?_) (fun c_297 => ?_)
                      · have hf1 : (fcM (twS (cc v) (n v)) (cc v)) ii = fV := nI_inj4 _ (fcM_4 _ _ _) _ hfV (by first | exact c_112 | exact Decidable.of_not_not c_112)
                        have hf2 : (fcM (twS (cc w) (n w)) (cc w)) jj = fW := nI_inj4 _ (fcM_4 _ _ _) _ hfW (by first | exact c_124 | exact Decidable.of_not_not c_124)
                        have hcon : near ≤ (itM (cc w) jj).1 - (itM (cc v) ii).1 ∧ (itM (cc w) jj).1 - (itM (cc v) ii).1 < x3.toInt ∧ (lrn x4).toInt ≤ min (itM (cc v) ii).2.2 (itM (cc w) jj).2.2 - max (itM (cc v) ii).2.1 (itM (cc w) jj).2.1 ∧ (x6 = -1 ∨ min ((itM (cc v) ii).2.2 - (itM (cc v) ii).2.1) ((itM (cc w) jj).2.2 - (itM (cc w) jj).2.1) < x6.toInt) := ⟨Int.not_lt.mp (mt (jN_lt (by omega) (by omega) (by omega) (by omega)).mpr c_132), (jN_lt (by omega) (by omega) (by omega) (by omega)).mp c_147, Int.not_lt.mp (mt (jN_lt (by omega) (by omega) (by omega) (by omega)).mpr c_283), (by
                          first
                            | (have g9 : x6.toInt < 0 := (jN_lt (b := 0) (by omega) (by omega) (by omega) (by omega)).mp c_202
                               rcases hen with e9 | e9
                               · exact Or.inl e9
                               · rw [Int32.le_iff_toInt_le] at e9
                                 have e8 : (0 : Int32).toInt = 0 := rfl
                                 omega)
                            | (have g9 := (jN_lt (by omega) (by omega) (by omega) (by omega)).mp c_230
                               exact Or.inr (by omega))
                            | (have g9 := mt (jN_le (by omega) (by omega) (by omega) (by omega)).mpr c_258
                               exact Or.inr (by omega))
                            | exact absurd rfl (show ¬ (0 : Int32) = 0 from c_288))⟩
                        refine v_aload_n dX13_gaps_331 rfl 14 rfl ?_
                        refine v_lload dX13_gaps_332 2 rfl ?_
                        refine v_aload_n dX13_gaps_334 rfl 14 rfl ?_
                        refine v_getf 48 (ci := 11) (C := RX13) (T := TX13) (N := 71) rfl iwX13_gaps_X13 (Nat.le_of_ble_eq_true rfl) (by decide +kernel) dX13_gaps_335 (by first | with_reducible assumption) (by repeat (first | with_reducible assumption | (with_reducible refine (sv_ls (by first | omega | (simp only [List.length_set]; omega))).trans ?_; exact rfl) | with_reducible refine (List.getElem?_set_ne (by decide)).trans ?_)) ?_
                        refine v_iload dX13_gaps_338 5 rfl ?_
                        refine v_laldS (v := jN (itM (cc v) ii).1) dX13_gaps_340 (by first | with_reducible assumption) (vp_in_nI (by omega) (by omega)) (by rw [nI_clamp (by omega)]; exact q2) ?_
                        refine v_lload dX13_gaps_341 1 rfl ?_
                        refine v_aload_n dX13_gaps_343 rfl 14 rfl ?_
                        refine v_getf 48 (ci := 11) (C := RX13) (T := TX13) (N := 71) rfl iwX13_gaps_X13 (Nat.le_of_ble_eq_true rfl) (by decide +kernel) dX13_gaps_344 (by first | with_reducible assumption) (by repeat (first | with_reducible assumption | (with_reducible refine (sv_ls (by first | omega | (simp only [List.length_set]; omega))).trans ?_; exact rfl) | with_reducible refine (List.getElem?_set_ne (by decide)).trans ?_)) ?_
                        refine v_iload dX13_gaps_347 4 rfl ?_
                        refine v_laldS (v := jN (itM (cc w) jj).1) dX13_gaps_349 (by first | with_reducible assumption) (vp_in_nI (by omega) (by omega)) (by rw [nI_clamp (by omega)]; exact p2) ?_
                        refine v_iload dX13_gaps_350 7 rfl ?_
                        refine v_iload dX13_gaps_352 6 rfl ?_
                        refine v_lload dX13_gaps_354 3 rfl ?_
                        refine v_callVq (M' := mX13_tell) (n := 7) (As := [_, _, _, _, _, _, _]) (ci := 11) (r := (RX13, TX13, 71)) gX13_gaps_X13_tell rfl (by decide +kernel) ⟨(Nat.le_of_ble_eq_true rfl), (Nat.le_of_ble_eq_true rfl)⟩ rfl rfl dX13_gaps_356 rfl ⟨(Nat.le_of_ble_eq_true rfl), (Nat.le_of_ble_eq_true rfl)⟩ (Nat.le_of_ble_eq_true rfl) (by first | with_reducible assumption) rfl (m_tell G _ b nc np pl R hm p3 p4 sz ly vo mp X Y hb fs0 hq0 MY O MO o ho how d hd h60 h61 mc hmc h62 hMB h fs hm9 hl hE fr _ T (max (itM (cc v) ii).2.1 (itM (cc w) jj).2.1) (itM (cc v) ii).1 (min (itM (cc v) ii).2.2 (itM (cc w) jj).2.2) (itM (cc w) jj).1 a c ((itM (cc w) jj).1 - (itM (cc v) ii).1) (by omega) (by omega) (by omega) (by omega) (by omega) (by omega)) (fun v9 h1 z1 hq9 => ?_)
                        obtain ⟨rfl, rfl, fs1, u1, u2, u3, u4, T1⟩ := hq9
                        refine v_iinc (j := 4) (L' := [(11, _), (18, _), (16, _), (14, _), (12, _), (10, _), (9, _), (8, _), (7, _), (5, _), (4, _), (3, _), (2, _), (1, _), (0, _)]) (v := nI (16 * w + (jj + 1))) dX13_gaps_359 rfl (nI_1 _) (Nat.le_of_ble_eq_true rfl) rfl ?_
                        refine v_goto (tgt := 71) dX13_gaps_362 (by decide) ?_
                        refine v_sub (L' := [(11, _), (10, _), (9, _), (8, _), (7, _), (5, _), (4, _), (3, _), (2, _), (1, _), (0, _)]) [0, 5, 6, 7, 8, 9, 10, 11, 12, 13, 14] rfl ?_
                        first
                          | exact absurd (show (1 : Int32) = 0 from c_288) (by decide)
                          | exact absurd rfl (show ¬ (0 : Int32) = 0 from c_288)
                          | (have c9 := T1
                             refine ih (jj + 1) h1 fs1 (by omega) u1 u2 u3 u4 ?_
                             rw [rgm_s, ← List.append_assoc, show (gpR (mvW mp ((O.getD o ([], 0)).1.take d)) fV fW near x3.toInt (lrn x4).toInt x6 a c (mc : Int) (fcM (twS (cc v) (n v)) (cc v)) (fcM (twS (cc w) (n w)) (cc w)) (itM (cc v)) (itM (cc w)) ii jj) = [_] from (if_pos ⟨hf1, hf2⟩).trans (congrArg (List.map (mvR (mvW mp ((O.getD o ([], 0)).1.take d)))) (if_pos hcon))]
                             first
                               | (rw [if_pos (show upr fV = true from (upr_2 fV hfV).trans (decide_eq_true c_297))]; exact c9)
                               | (rw [if_neg (show ¬ upr fV = true from fun e9 => c_297 (of_decide_eq_true ((upr_2 fV hfV).symm.trans e9)))]; exact c9))
                          | (refine ih (jj + 1) h fs (by omega) hm9 hl hE fr ?_
                             rw [rgm_s, show (gpR (mvW mp ((O.getD o ([], 0)).1.take d)) fV fW near x3.toInt (lrn x4).toInt x6 a c (mc : Int) (fcM (twS (cc v) (n v)) (cc v)) (fcM (twS (cc w) (n w)) (cc w)) (itM (cc v)) (itM (cc w)) ii jj) = [] from ?_, List.append_nil]
                             · exact T
                             · first
                                 | exact if_neg (fun r9 => c_112 (congrArg nI r9.1))
                                 | exact if_neg (fun r9 => c_124 (congrArg nI r9.2))
                                 | (unfold gpR
                                    split
                                    · rw [show acR (upr fV) near x3.toInt (lrn x4).toInt x6 a c (mc : Int) (itM (cc v) ii) (itM (cc w) jj) = [] from if_neg (fun r9 => (by
                                        first
                                          | exact absurd ((jN_lt (by omega) (by omega) (by omega) (by omega)).mp c_132) (Int.not_lt.mpr r9.1)
                                          | exact absurd ((jN_lt (by omega) (by omega) (by omega) (by omega)).mpr r9.2.1) c_147
                                          | exact absurd ((jN_lt (by omega) (by omega) (by omega) (by omega)).mp c_283) (Int.not_lt.mpr r9.2.2.1)
                                          | (have g1 := mt (jN_lt (b := 0) (by omega) (by omega) (by omega) (by omega)).mpr c_202
                                             have g2 := mt (jN_lt (by omega) (by omega) (by omega) (by omega)).mpr c_230
                                             have g3 := (jN_le (by omega) (by omega) (by omega) (by omega)).mp c_258
                                             rcases r9.2.2.2 with e9 | e9
                                             · rw [e9] at g1
                                               exact g1 (by decide)
                                             · omega)))]
                                      rfl
                                    · rfl))
                      · have hf1 : (fcM (twS (cc v) (n v)) (cc v)) ii = fV := nI_inj4 _ (fcM_4 _ _ _) _ hfV (by first | exact c_112 | exact Decidable.of_not_not c_112)
                        have hf2 : (fcM (twS (cc w) (n w)) (cc w)) jj = fW := nI_inj4 _ (fcM_4 _ _ _) _ hfW (by first | exact c_124 | exact Decidable.of_not_not c_124)
                        have hcon : near ≤ (itM (cc w) jj).1 - (itM (cc v) ii).1 ∧ (itM (cc w) jj).1 - (itM (cc v) ii).1 < x3.toInt ∧ (lrn x4).toInt ≤ min (itM (cc v) ii).2.2 (itM (cc w) jj).2.2 - max (itM (cc v) ii).2.1 (itM (cc w) jj).2.1 ∧ (x6 = -1 ∨ min ((itM (cc v) ii).2.2 - (itM (cc v) ii).2.1) ((itM (cc w) jj).2.2 - (itM (cc w) jj).2.1) < x6.toInt) := ⟨Int.not_lt.mp (mt (jN_lt (by omega) (by omega) (by omega) (by omega)).mpr c_132), (jN_lt (by omega) (by omega) (by omega) (by omega)).mp c_147, Int.not_lt.mp (mt (jN_lt (by omega) (by omega) (by omega) (by omega)).mpr c_283), (by
                          first
                            | (have g9 : x6.toInt < 0 := (jN_lt (b := 0) (by omega) (by omega) (by omega) (by omega)).mp c_202
                               rcases hen with e9 | e9
                               · exact Or.inl e9
                               · rw [Int32.le_iff_toInt_le] at e9
                                 have e8 : (0 : Int32).toInt = 0 := rfl
                                 omega)
                            | (have g9 := (jN_lt (by omega) (by omega) (by omega) (by omega)).mp c_230
                               exact Or.inr (by omega))
                            | (have g9 := mt (jN_le (by omega) (by omega) (by omega) (by omega)).mpr c_258
                               exact Or.inr (by omega))
                            | exact absurd rfl (show ¬ (0 : Int32) = 0 from c_288))⟩
                        refine v_aload_n dX13_gaps_300 rfl 14 rfl ?_
                        refine v_aload_n dX13_gaps_301 rfl 14 rfl ?_
                        refine v_getf 48 (ci := 11) (C := RX13) (T := TX13) (N := 71) rfl iwX13_gaps_X13 (Nat.le_of_ble_eq_true rfl) (by decide +kernel) dX13_gaps_302 (by first | with_reducible assumption) (by repeat (first | with_reducible assumption | (with_reducible refine (sv_ls (by first | omega | (simp only [List.length_set]; omega))).trans ?_; exact rfl) | with_reducible refine (List.getElem?_set_ne (by decide)).trans ?_)) ?_
                        refine v_iload dX13_gaps_305 5 rfl ?_
                        refine v_laldS (v := jN (itM (cc v) ii).1) dX13_gaps_307 (by first | with_reducible assumption) (vp_in_nI (by omega) (by omega)) (by rw [nI_clamp (by omega)]; exact q2) ?_
                        refine v_lload dX13_gaps_308 2 rfl ?_
                        refine v_aload_n dX13_gaps_310 rfl 14 rfl ?_
                        refine v_getf 48 (ci := 11) (C := RX13) (T := TX13) (N := 71) rfl iwX13_gaps_X13 (Nat.le_of_ble_eq_true rfl) (by decide +kernel) dX13_gaps_311 (by first | with_reducible assumption) (by repeat (first | with_reducible assumption | (with_reducible refine (sv_ls (by first | omega | (simp only [List.length_set]; omega))).trans ?_; exact rfl) | with_reducible refine (List.getElem?_set_ne (by decide)).trans ?_)) ?_
                        refine v_iload dX13_gaps_314 4 rfl ?_
                        refine v_laldS (v := jN (itM (cc w) jj).1) dX13_gaps_316 (by first | with_reducible assumption) (vp_in_nI (by omega) (by omega)) (by rw [nI_clamp (by omega)]; exact p2) ?_
                        refine v_lload dX13_gaps_317 1 rfl ?_
                        refine v_iload dX13_gaps_319 7 rfl ?_
                        refine v_iload dX13_gaps_321 6 rfl ?_
                        refine v_lload dX13_gaps_323 3 rfl ?_
                        refine v_callVq (M' := mX13_tell) (n := 7) (As := [_, _, _, _, _, _, _]) (ci := 11) (r := (RX13, TX13, 71)) gX13_gaps_X13_tell rfl (by decide +kernel) ⟨(Nat.le_of_ble_eq_true rfl), (Nat.le_of_ble_eq_true rfl)⟩ rfl rfl dX13_gaps_325 rfl ⟨(Nat.le_of_ble_eq_true rfl), (Nat.le_of_ble_eq_true rfl)⟩ (Nat.le_of_ble_eq_true rfl) (by first | with_reducible assumption) rfl (m_tell G _ b nc np pl R hm p3 p4 sz ly vo mp X Y hb fs0 hq0 MY O MO o ho how d hd h60 h61 mc hmc h62 hMB h fs hm9 hl hE fr _ T (itM (cc v) ii).1 (max (itM (cc v) ii).2.1 (itM (cc w) jj).2.1) (itM (cc w) jj).1 (min (itM (cc v) ii).2.2 (itM (cc w) jj).2.2) a c ((itM (cc w) jj).1 - (itM (cc v) ii).1) (by omega) (by omega) (by omega) (by omega) (by omega) (by omega)) (fun v9 h1 z1 hq9 => ?_)
                        obtain ⟨rfl, rfl, fs1, u1, u2, u3, u4, T1⟩ := hq9
                        refine v_goto (tgt := 359) dX13_gaps_328 (by decide) ?_
                        refine v_iinc (j := 4) (L' := [(11, _), (18, _), (16, _), (14, _), (12, _), (10, _), (9, _), (8, _), (7, _), (5, _), (4, _), (3, _), (2, _), (1, _), (0, _)]) (v := nI (16 * w + (jj + 1))) dX13_gaps_359 rfl (nI_1 _) (Nat.le_of_ble_eq_true rfl) rfl ?_
                        refine v_goto (tgt := 71) dX13_gaps_362 (by decide) ?_
                        refine v_sub (L' := [(11, _), (10, _), (9, _), (8, _), (7, _), (5, _), (4, _), (3, _), (2, _), (1, _), (0, _)]) [0, 5, 6, 7, 8, 9, 10, 11, 12, 13, 14] rfl ?_
                        first
                          | exact absurd (show (1 : Int32) = 0 from c_288) (by decide)
                          | exact absurd rfl (show ¬ (0 : Int32) = 0 from c_288)
                          | (have c9 := T1
                             refine ih (jj + 1) h1 fs1 (by omega) u1 u2 u3 u4 ?_
                             rw [rgm_s, ← List.append_assoc, show (gpR (mvW mp ((O.getD o ([], 0)).1.take d)) fV fW near x3.toInt (lrn x4).toInt x6 a c (mc : Int) (fcM (twS (cc v) (n v)) (cc v)) (fcM (twS (cc w) (n w)) (cc w)) (itM (cc v)) (itM (cc w)) ii jj) = [_] from (if_pos ⟨hf1, hf2⟩).trans (congrArg (List.map (mvR (mvW mp ((O.getD o ([], 0)).1.take d)))) (if_pos hcon))]
                             first
                               | (rw [if_pos (show upr fV = true from (upr_2 fV hfV).trans (decide_eq_true c_297))]; exact c9)
                               | (rw [if_neg (show ¬ upr fV = true from fun e9 => c_297 (of_decide_eq_true ((upr_2 fV hfV).symm.trans e9)))]; exact c9))
                          | (refine ih (jj + 1) h fs (by omega) hm9 hl hE fr ?_
                             rw [rgm_s, show (gpR (mvW mp ((O.getD o ([], 0)).1.take d)) fV fW near x3.toInt (lrn x4).toInt x6 a c (mc : Int) (fcM (twS (cc v) (n v)) (cc v)) (fcM (twS (cc w) (n w)) (cc w)) (itM (cc v)) (itM (cc w)) ii jj) = [] from ?_, List.append_nil]
                             · exact T
                             · first
                                 | exact if_neg (fun r9 => c_112 (congrArg nI r9.1))
                                 | exact if_neg (fun r9 => c_124 (congrArg nI r9.2))
                                 | (unfold gpR
                                    split
                                    · rw [show acR (upr fV) near x3.toInt (lrn x4).toInt x6 a c (mc : Int) (itM (cc v) ii) (itM (cc w) jj) = [] from if_neg (fun r9 => (by
                                        first
                                          | exact absurd ((jN_lt (by omega) (by omega) (by omega) (by omega)).mp c_132) (Int.not_lt.mpr r9.1)
                                          | exact absurd ((jN_lt (by omega) (by omega) (by omega) (by omega)).mpr r9.2.1) c_147
                                          | exact absurd ((jN_lt (by omega) (by omega) (by omega) (by omega)).mp c_283) (Int.not_lt.mpr r9.2.2.1)
                                          | (have g1 := mt (jN_lt (b := 0) (by omega) (by omega) (by omega) (by omega)).mpr c_202
                                             have g2 := mt (jN_lt (by omega) (by omega) (by omega) (by omega)).mpr c_230
                                             have g3 := (jN_le (by omega) (by omega) (by omega) (by omega)).mp c_258
                                             rcases r9.2.2.2 with e9 | e9
                                             · rw [e9] at g1
                                               exact g1 (by decide)
                                             · omega)))]
                                      rfl
                                    · rfl))
                    · refine v_goto (tgt := 359) dX13_gaps_291 (by decide) ?_
                      refine v_iinc (j := 4) (L' := [(11, _), (18, _), (16, _), (14, _), (12, _), (10, _), (9, _), (8, _), (7, _), (5, _), (4, _), (3, _), (2, _), (1, _), (0, _)]) (v := nI (16 * w + (jj + 1))) dX13_gaps_359 rfl (nI_1 _) (Nat.le_of_ble_eq_true rfl) rfl ?_
                      refine v_goto (tgt := 71) dX13_gaps_362 (by decide) ?_
                      refine v_sub (L' := [(11, _), (10, _), (9, _), (8, _), (7, _), (5, _), (4, _), (3, _), (2, _), (1, _), (0, _)]) [0, 5, 6, 7, 8, 9, 10, 11, 12, 13, 14] rfl ?_
                      first
                        | exact absurd (show (1 : Int32) = 0 from c_288) (by decide)
                        | exact absurd rfl (show ¬ (0 : Int32) = 0 from c_288)
                        | (have c9 := T1
                           refine ih (jj + 1) h1 fs1 (by omega) u1 u2 u3 u4 ?_
                           rw [rgm_s, ← List.append_assoc, show (gpR (mvW mp ((O.getD o ([], 0)).1.take d)) fV fW near x3.toInt (lrn x4).toInt x6 a c (mc : Int) (fcM (twS (cc v) (n v)) (cc v)) (fcM (twS (cc w) (n w)) (cc w)) (itM (cc v)) (itM (cc w)) ii jj) = [_] from (if_pos ⟨hf1, hf2⟩).trans (congrArg (List.map (mvR (mvW mp ((O.getD o ([], 0)).1.take d)))) (if_pos hcon))]
                           first
                             | (rw [if_pos (show upr fV = true from (upr_2 fV hfV).trans (decide_eq_true c_297))]; exact c9)
                             | (rw [if_neg (show ¬ upr fV = true from fun e9 => c_297 (of_decide_eq_true ((upr_2 fV hfV).symm.trans e9)))]; exact c9))
                        | (refine ih (jj + 1) h fs (by omega) hm9 hl hE fr ?_
                           rw [rgm_s, show (gpR (mvW mp ((O.getD o ([], 0)).1.take d)) fV fW near x3.toInt (lrn x4).toInt x6 a c (mc : Int) (fcM (twS (cc v) (n v)) (cc v)) (fcM (twS (cc w) (n w)) (cc w)) (itM (cc v)) (itM (cc w)) ii jj) = [] from ?_, List.append_nil]
                           · exact T
                           · first
                               | exact if_neg (fun r9 => c_112 (congrArg nI r9.1))
                               | exact if_neg (fun r9 => c_124 (congrArg nI r9.2))
                               | (unfold gpR
                                  split
                                  · rw [show acR (upr fV) near x3.toInt (lrn x4).toInt x6 a c (mc : Int) (itM (cc v) ii) (itM (cc w) jj) = [] from if_neg (fun r9 => (by
                                      first
                                        | exact absurd ((jN_lt (by omega) (by omega) (by omega) (by omega)).mp c_132) (Int.not_lt.mpr r9.1)
                                        | exact absurd ((jN_lt (by omega) (by omega) (by omega) (by omega)).mpr r9.2.1) c_147
                                        | exact absurd ((jN_lt (by omega) (by omega) (by omega) (by omega)).mp c_283) (Int.not_lt.mpr r9.2.2.1)
                                        | (have g1 := mt (jN_lt (b := 0) (by omega) (by omega) (by omega) (by omega)).mpr c_202
                                           have g2 := mt (jN_lt (by omega) (by omega) (by omega) (by omega)).mpr c_230
                                           have g3 := (jN_le (by omega) (by omega) (by omega) (by omega)).mp c_258
                                           rcases r9.2.2.2 with e9 | e9
                                           · rw [e9] at g1
                                             exact g1 (by decide)
                                           · omega)))]
                                    rfl
                                  · rfl))
                · refine v_aload_n dX13_gaps_233 rfl 13 rfl ?_
                  refine v_getf 50 (ci := 11) (C := RX13) (T := TX13) (N := 71) rfl iwX13_gaps_X13 (Nat.le_of_ble_eq_true rfl) (by decide +kernel) dX13_gaps_234 (by first | with_reducible assumption) (by repeat (first | with_reducible assumption | (with_reducible refine (sv_ls (by first | omega | (simp only [List.length_set]; omega))).trans ?_; exact rfl) | with_reducible refine (List.getElem?_set_ne (by decide)).trans ?_)) ?_
                  refine v_iload dX13_gaps_237 3 rfl ?_
                  refine v_laldS (v := jN (itM (cc w) jj).2.2) dX13_gaps_239 (by first | with_reducible assumption) (vp_in_nI (by omega) (by omega)) (by rw [nI_clamp (by omega)]; exact p4_) ?_
                  refine v_aload_n dX13_gaps_240 rfl 13 rfl ?_
                  refine v_getf 49 (ci := 11) (C := RX13) (T := TX13) (N := 71) rfl iwX13_gaps_X13 (Nat.le_of_ble_eq_true rfl) (by decide +kernel) dX13_gaps_241 (by first | with_reducible assumption) (by repeat (first | with_reducible assumption | (with_reducible refine (sv_ls (by first | omega | (simp only [List.length_set]; omega))).trans ?_; exact rfl) | with_reducible refine (List.getElem?_set_ne (by decide)).trans ?_)) ?_
                  refine v_iload dX13_gaps_244 3 rfl ?_
                  refine v_laldS (v := jN (itM (cc w) jj).2.1) dX13_gaps_246 (by first | with_reducible assumption) (vp_in_nI (by omega) (by omega)) (by rw [nI_clamp (by omega)]; exact p3_) ?_
                  refine v_lsub dX13_gaps_247 ?_
                  rw [← jN_sub]
                  refine v_aload_n dX13_gaps_248 rfl 13 rfl ?_
                  refine v_getf 25 (ci := 11) (C := RX13) (T := TX13) (N := 71) rfl iwX13_gaps_X13 (Nat.le_of_ble_eq_true rfl) (by decide +kernel) dX13_gaps_249 (by first | with_reducible assumption) (by repeat (first | with_reducible assumption | (with_reducible refine (sv_ls (by first | omega | (simp only [List.length_set]; omega))).trans ?_; exact rfl) | with_reducible refine (List.getElem?_set_ne (by decide)).trans ?_)) ?_
                  refine v_aload_n dX13_gaps_252 rfl 13 rfl ?_
                  refine v_getf 58 (ci := 11) (C := RX13) (T := TX13) (N := 71) rfl iwX13_gaps_X13 (Nat.le_of_ble_eq_true rfl) (by decide +kernel) dX13_gaps_253 (by first | with_reducible assumption) (by repeat (first | with_reducible assumption | (with_reducible refine (sv_ls (by first | omega | (simp only [List.length_set]; omega))).trans ?_; exact rfl) | with_reducible refine (List.getElem?_set_ne (by decide)).trans ?_)) ?_
                  refine v_laldS (v := jN x6.toInt) dX13_gaps_256 (by first | with_reducible assumption) (vp_in_nI (by omega) (by omega)) (by rw [nI_clamp (by omega)]; exact r39a) ?_
                  refine v_lcmp_ge (tgt := 265) dX13_gaps_257 dX13_gaps_258 (by decide) (fun c_258 => ?_) (fun c_258 => ?_)
                  · refine v_iconst (v := 0) dX13_gaps_265 (by decide) ?_
                    refine v_istore (L' := [(18, _), (16, _), (14, _), (12, _), (11, _), (10, _), (9, _), (8, _), (7, _), (5, _), (4, _), (3, _), (2, _), (1, _), (0, _)]) dX13_gaps_266 (Nat.le_of_ble_eq_true rfl) rfl ?_
                    refine v_lload dX13_gaps_268 1 rfl ?_
                    refine v_lload dX13_gaps_270 2 rfl ?_
                    refine v_lsub dX13_gaps_272 ?_
                    rw [← jN_sub]
                    refine v_aload_n dX13_gaps_273 rfl 14 rfl ?_
                    refine v_getf 23 (ci := 11) (C := RX13) (T := TX13) (N := 71) rfl iwX13_gaps_X13 (Nat.le_of_ble_eq_true rfl) (by decide +kernel) dX13_gaps_274 (by first | with_reducible assumption) (by repeat (first | with_reducible assumption | (with_reducible refine (sv_ls (by first | omega | (simp only [List.length_set]; omega))).trans ?_; exact rfl) | with_reducible refine (List.getElem?_set_ne (by decide)).trans ?_)) ?_
                    refine v_aload_n dX13_gaps_277 rfl 14 rfl ?_
                    refine v_getf 58 (ci := 11) (C := RX13) (T := TX13) (N := 71) rfl iwX13_gaps_X13 (Nat.le_of_ble_eq_true rfl) (by decide +kernel) dX13_gaps_278 (by first | with_reducible assumption) (by repeat (first | with_reducible assumption | (with_reducible refine (sv_ls (by first | omega | (simp only [List.length_set]; omega))).trans ?_; exact rfl) | with_reducible refine (List.getElem?_set_ne (by decide)).trans ?_)) ?_
                    refine v_laldS (v := jN (lrn x4).toInt) dX13_gaps_281 (by first | with_reducible assumption) (vp_in_nI (by omega) (by omega)) (by rw [nI_clamp (by omega)]; exact r37a) ?_
                    refine v_lcmp_lt (tgt := 359) dX13_gaps_282 dX13_gaps_283 (by decide) (fun c_283 => ?_) (fun c_283 => ?_)
                    · refine v_iinc (j := 4) (L' := [(11, _), (18, _), (16, _), (14, _), (12, _), (10, _), (9, _), (8, _), (7, _), (5, _), (4, _), (3, _), (2, _), (1, _), (0, _)]) (v := nI (16 * w + (jj + 1))) dX13_gaps_359 rfl (nI_1 _) (Nat.le_of_ble_eq_true rfl) rfl ?_
                      refine v_goto (tgt := 71) dX13_gaps_362 (by decide) ?_
                      refine v_sub (L' := [(11, _), (10, _), (9, _), (8, _), (7, _), (5, _), (4, _), (3, _), (2, _), (1, _), (0, _)]) [0, 5, 6, 7, 8, 9, 10, 11, 12, 13, 14] rfl ?_
                      first
                        | exact absurd (show (1 : Int32) = 0 from c_288) (by decide)
                        | exact absurd rfl (show ¬ (0 : Int32) = 0 from c_288)
                        | (have c9 := T1
                           refine ih (jj + 1) h1 fs1 (by omega) u1 u2 u3 u4 ?_
                           rw [rgm_s, ← List.append_assoc, show (gpR (mvW mp ((O.getD o ([], 0)).1.take d)) fV fW near x3.toInt (lrn x4).toInt x6 a c (mc : Int) (fcM (twS (cc v) (n v)) (cc v)) (fcM (twS (cc w) (n w)) (cc w)) (itM (cc v)) (itM (cc w)) ii jj) = [_] from (if_pos ⟨hf1, hf2⟩).trans (congrArg (List.map (mvR (mvW mp ((O.getD o ([], 0)).1.take d)))) (if_pos hcon))]
                           first
                             | (rw [if_pos (show upr fV = true from (upr_2 fV hfV).trans (decide_eq_true c_297))]; exact c9)
                             | (rw [if_neg (show ¬ upr fV = true from fun e9 => c_297 (of_decide_eq_true ((upr_2 fV hfV).symm.trans e9)))]; exact c9))
                        | (refine ih (jj + 1) h fs (by omega) hm9 hl hE fr ?_
                           rw [rgm_s, show (gpR (mvW mp ((O.getD o ([], 0)).1.take d)) fV fW near x3.toInt (lrn x4).toInt x6 a c (mc : Int) (fcM (twS (cc v) (n v)) (cc v)) (fcM (twS (cc w) (n w)) (cc w)) (itM (cc v)) (itM (cc w)) ii jj) = [] from ?_, List.append_nil]
                           · exact T
                           · first
                               | exact if_neg (fun r9 => c_112 (congrArg nI r9.1))
                               | exact if_neg (fun r9 => c_124 (congrArg nI r9.2))
                               | (unfold gpR
                                  split
                                  · rw [show acR (upr fV) near x3.toInt (lrn x4).toInt x6 a c (mc : Int) (itM (cc v) ii) (itM (cc w) jj) = [] from if_neg (fun r9 => (by
                                      first
                                        | exact absurd ((jN_lt (by omega) (by omega) (by omega) (by omega)).mp c_132) (Int.not_lt.mpr r9.1)
                                        | exact absurd ((jN_lt (by omega) (by omega) (by omega) (by omega)).mpr r9.2.1) c_147
                                        | exact absurd ((jN_lt (by omega) (by omega) (by omega) (by omega)).mp c_283) (Int.not_lt.mpr r9.2.2.1)
                                        | (have g1 := mt (jN_lt (b := 0) (by omega) (by omega) (by omega) (by omega)).mpr c_202
                                           have g2 := mt (jN_lt (by omega) (by omega) (by omega) (by omega)).mpr c_230
                                           have g3 := (jN_le (by omega) (by omega) (by omega) (by omega)).mp c_258
                                           rcases r9.2.2.2 with e9 | e9
                                           · rw [e9] at g1
                                             exact g1 (by decide)
                                           · omega)))]
                                    rfl
                                  · rfl))
                    · refine v_iload dX13_gaps_286 0 rfl ?_
                      refine v_if_ne (tgt := 294) dX13_gaps_288 (by decide) (fun c_288 => ?_) (fun c_288 => ?_)
                      · refine v_iload_n dX13_gaps_294 rfl 12 rfl ?_
                        refine v_iconst (v := 2) dX13_gaps_295 (by decide) ?_
                        refine v_irem dX13_gaps_296 (by decide) ?_
                        rw [fv_rem fV hfV]
                        refine v_if_ne (tgt := 331) dX13_gaps_297 (by decide) (fun c_297 => ?_) (fun c_297 => ?_)
                        · have hf1 : (fcM (twS (cc v) (n v)) (cc v)) ii = fV := nI_inj4 _ (fcM_4 _ _ _) _ hfV (by first | exact c_112 | exact Decidable.of_not_not c_112)
                          have hf2 : (fcM (twS (cc w) (n w)) (cc w)) jj = fW := nI_inj4 _ (fcM_4 _ _ _) _ hfW (by first | exact c_124 | exact Decidable.of_not_not c_124)
                          have hcon : near ≤ (itM (cc w) jj).1 - (itM (cc v) ii).1 ∧ (itM (cc w) jj).1 - (itM (cc v) ii).1 < x3.toInt ∧ (lrn x4).toInt ≤ min (itM (cc v) ii).2.2 (itM (cc w) jj).2.2 - max (itM (cc v) ii).2.1 (itM (cc w) jj).2.1 ∧ (x6 = -1 ∨ min ((itM (cc v) ii).2.2 - (itM (cc v) ii).2.1) ((itM (cc w) jj).2.2 - (itM (cc w) jj).2.1) < x6.toInt) := ⟨Int.not_lt.mp (mt (jN_lt (by omega) (by omega) (by omega) (by omega)).mpr c_132), (jN_lt (by omega) (by omega) (by omega) (by omega)).mp c_147, Int.not_lt.mp (mt (jN_lt (by omega) (by omega) (by omega) (by omega)).mpr c_283), (by
                            first
                              | (have g9 : x6.toInt < 0 := (jN_lt (b := 0) (by omega) (by omega) (by omega) (by omega)).mp c_202
                                 rcases hen with e9 | e9
                                 · exact Or.inl e9
                                 · rw [Int32.le_iff_toInt_le] at e9
                                   have e8 : (0 : Int32).toInt = 0 := rfl
                                   omega)
                              | (have g9 := (jN_lt (by omega) (by omega) (by omega) (by omega)).mp c_230
                                 exact Or.inr (by omega))
                              | (have g9 := mt (jN_le (by omega) (by omega) (by omega) (by omega)).mpr c_258
                                 exact Or.inr (by omega))
                              | exact absurd rfl (show ¬ (0 : Int32) = 0 from c_288))⟩
                          refine v_aload_n dX13_gaps_331 rfl 14 rfl ?_
                          refine v_lload dX13_gaps_332 2 rfl ?_
                          refine v_aload_n dX13_gaps_334 rfl 14 rfl ?_
                          refine v_getf 48 (ci := 11) (C := RX13) (T := TX13) (N := 71) rfl iwX13_gaps_X13 (Nat.le_of_ble_eq_true rfl) (by decide +kernel) dX13_gaps_335 (by first | with_reducible assumption) (by repeat (first | with_reducible assumption | (with_reducible refine (sv_ls (by first | omega | (simp only [List.length_set]; omega))).trans ?_; exact rfl) | with_reducible refine (List.getElem?_set_ne (by decide)).trans ?_)) ?_
                          refine v_iload dX13_gaps_338 5 rfl ?_
                          refine v_laldS (v := jN (itM (cc v) ii).1) dX13_gaps_340 (by first | with_reducible assumption) (vp_in_nI (by omega) (by omega)) (by rw [nI_clamp (by omega)]; exact q2) ?_
                          refine v_lload dX13_gaps_341 1 rfl ?_
                          refine v_aload_n dX13_gaps_343 rfl 14 rfl ?_
                          refine v_getf 48 (ci := 11) (C := RX13) (T := TX13) (N := 71) rfl iwX13_gaps_X13 (Nat.le_of_ble_eq_true rfl) (by decide +kernel) dX13_gaps_344 (by first | with_reducible assumption) (by repeat (first | with_reducible assumption | (with_reducible refine (sv_ls (by first | omega | (simp only [List.length_set]; omega))).trans ?_; exact rfl) | with_reducible refine (List.getElem?_set_ne (by decide)).trans ?_)) ?_
                          refine v_iload dX13_gaps_347 4 rfl ?_
                          refine v_laldS (v := jN (itM (cc w) jj).1) dX13_gaps_349 (by first | with_reducible assumption) (vp_in_nI (by omega) (by omega)) (by rw [nI_clamp (by omega)]; exact p2) ?_
                          refine v_iload dX13_gaps_350 7 rfl ?_
                          refine v_iload dX13_gaps_352 6 rfl ?_
                          refine v_lload dX13_gaps_354 3 rfl ?_
                          refine v_callVq (M' := mX13_tell) (n := 7) (As := [_, _, _, _, _, _, _]) (ci := 11) (r := (RX13, TX13, 71)) gX13_gaps_X13_tell rfl (by decide +kernel) ⟨(Nat.le_of_ble_eq_true rfl), (Nat.le_of_ble_eq_true rfl)⟩ rfl rfl dX13_gaps_356 rfl ⟨(Nat.le_of_ble_eq_true rfl), (Nat.le_of_ble_eq_true rfl)⟩ (Nat.le_of_ble_eq_true rfl) (by first | with_reducible assumption) rfl (m_tell G _ b nc np pl R hm p3 p4 sz ly vo mp X Y hb fs0 hq0 MY O MO o ho how d hd h60 h61 mc hmc h62 hMB h fs hm9 hl hE fr _ T (max (itM (cc v) ii).2.1 (itM (cc w) jj).2.1) (itM (cc v) ii).1 (min (itM (cc v) ii).2.2 (itM (cc w) jj).2.2) (itM (cc w) jj).1 a c ((itM (cc w) jj).1 - (itM (cc v) ii).1) (by omega) (by omega) (by omega) (by omega) (by omega) (by omega)) (fun v9 h1 z1 hq9 => ?_)
                          obtain ⟨rfl, rfl, fs1, u1, u2, u3, u4, T1⟩ := hq9
                          refine v_iinc (j := 4) (L' := [(11, _), (18, _), (16, _), (14, _), (12, _), (10, _), (9, _), (8, _), (7, _), (5, _), (4, _), (3, _), (2, _), (1, _), (0, _)]) (v := nI (16 * w + (jj + 1))) dX13_gaps_359 rfl (nI_1 _) (Nat.le_of_ble_eq_true rfl) rfl ?_
                          refine v_goto (tgt := 71) dX13_gaps_362 (by decide) ?_
                          refine v_sub (L' := [(11, _), (10, _), (9, _), (8, _), (7, _), (5, _), (4, _), (3, _), (2, _), (1, _), (0, _)]) [0, 5, 6, 7, 8, 9, 10, 11, 12, 13, 14] rfl ?_
                          first
                            | exact absurd (show (1 : Int32) = 0 from c_288) (by decide)
                            | exact absurd rfl (show ¬ (0 : Int32) = 0 from c_288)
                            | (have c9 := T1
                               refine ih (jj + 1) h1 fs1 (by omega) u1 u2 u3 u4 ?_
                               rw [rgm_s, ← List.append_assoc, show (gpR (mvW mp ((O.getD o ([], 0)).1.take d)) fV fW near x3.toInt (lrn x4).toInt x6 a c (mc : Int) (fcM (twS (cc v) (n v)) (cc v)) (fcM (twS (cc w) (n w)) (cc w)) (itM (cc v)) (itM (cc w)) ii jj) = [_] from (if_pos ⟨hf1, hf2⟩).trans (congrArg (List.map (mvR (mvW mp ((O.getD o ([], 0)).1.take d)))) (if_pos hcon))]
                               first
                                 | (rw [if_pos (show upr fV = true from (upr_2 fV hfV).trans (decide_eq_true c_297))]; exact c9)
                                 | (rw [if_neg (show ¬ upr fV = true from fun e9 => c_297 (of_decide_eq_true ((upr_2 fV hfV).symm.trans e9)))]; exact c9))
                            | (refine ih (jj + 1) h fs (by omega) hm9 hl hE fr ?_
                               rw [rgm_s, show (gpR (mvW mp ((O.getD o ([], 0)).1.take d)) fV fW near x3.toInt (lrn x4).toInt x6 a c (mc : Int) (fcM (twS (cc v) (n v)) (cc v)) (fcM (twS (cc w) (n w)) (cc w)) (itM (cc v)) (itM (cc w)) ii jj) = [] from ?_, List.append_nil]
                               · exact T
                               · first
                                   | exact if_neg (fun r9 => c_112 (congrArg nI r9.1))
                                   | exact if_neg (fun r9 => c_124 (congrArg nI r9.2))
                                   | (unfold gpR
                                      split
                                      · rw [show acR (upr fV) near x3.toInt (lrn x4).toInt x6 a c (mc : Int) (itM (cc v) ii) (itM (cc w) jj) = [] from if_neg (fun r9 => (by
                                          first
                                            | exact absurd ((jN_lt (by omega) (by omega) (by omega) (by omega)).mp c_132) (Int.not_lt.mpr r9.1)
                                            | exact absurd ((jN_lt (by omega) (by omega) (by omega) (by omega)).mpr r9.2.1) c_147
                                            | exact absurd ((jN_lt (by omega) (by omega) (by omega) (by omega)).mp c_283) (Int.not_lt.mpr r9.2.2.1)
                                            | (have g1 := mt (jN_lt (b := 0) (by omega) (by omega) (by omega) (by omega)).mpr c_202
                                               have g2 := mt (jN_lt (by omega) (by omega) (by omega) (by omega)).mpr c_230
                                               have g3 := (jN_le (by omega) (by omega) (by omega) (by omega)).mp c_258
                                               rcases r9.2.2.2 with e9 | e9
                                               · rw [e9] at g1
                                                 exact g1 (by decide)
                                               · omega)))]
                                        rfl
                                      · rfl))
                        · have hf1 : (fcM (twS (cc v) (n v)) (cc v)) ii = fV := nI_inj4 _ (fcM_4 _ _ _) _ hfV (by first | exact c_112 | exact Decidable.of_not_not c_112)
                          have hf2 : (fcM (twS (cc w) (n w)) (cc w)) jj = fW := nI_inj4 _ (fcM_4 _ _ _) _ hfW (by first | exact c_124 | exact Decidable.of_not_not c_124)
                          have hcon : near ≤ (itM (cc w) jj).1 - (itM (cc v) ii).1 ∧ (itM (cc w) jj).1 - (itM (cc v) ii).1 < x3.toInt ∧ (lrn x4).toInt ≤ min (itM (cc v) ii).2.2 (itM (cc w) jj).2.2 - max (itM (cc v) ii).2.1 (itM (cc w) jj).2.1 ∧ (x6 = -1 ∨ min ((itM (cc v) ii).2.2 - (itM (cc v) ii).2.1) ((itM (cc w) jj).2.2 - (itM (cc w) jj).2.1) < x6.toInt) := ⟨Int.not_lt.mp (mt (jN_lt (by omega) (by omega) (by omega) (by omega)).mpr c_132), (jN_lt (by omega) (by omega) (by omega) (by omega)).mp c_147, Int.not_lt.mp (mt (jN_lt (by omega) (by omega) (by omega) (by omega)).mpr c_283), (by
                            first
                              | (have g9 : x6.toInt < 0 := (jN_lt (b := 0) (by omega) (by omega) (by omega) (by omega)).mp c_202
                                 rcases hen with e9 | e9
                                 · exact Or.inl e9
                                 · rw [Int32.le_iff_toInt_le] at e9
                                   have e8 : (0 : Int32).toInt = 0 := rfl
                                   omega)
                              | (have g9 := (jN_lt (by omega) (by omega) (by omega) (by omega)).mp c_230
                                 exact Or.inr (by omega))
                              | (have g9 := mt (jN_le (by omega) (by omega) (by omega) (by omega)).mpr c_258
                                 exact Or.inr (by omega))
                              | exact absurd rfl (show ¬ (0 : Int32) = 0 from c_288))⟩
                          refine v_aload_n dX13_gaps_300 rfl 14 rfl ?_
                          refine v_aload_n dX13_gaps_301 rfl 14 rfl ?_
                          refine v_getf 48 (ci := 11) (C := RX13) (T := TX13) (N := 71) rfl iwX13_gaps_X13 (Nat.le_of_ble_eq_true rfl) (by decide +kernel) dX13_gaps_302 (by first | with_reducible assumption) (by repeat (first | with_reducible assumption | (with_reducible refine (sv_ls (by first | omega | (simp only [List.length_set]; omega))).trans ?_; exact rfl) | with_reducible refine (List.getElem?_set_ne (by decide)).trans ?_)) ?_
                          refine v_iload dX13_gaps_305 5 rfl ?_
                          refine v_laldS (v := jN (itM (cc v) ii).1) dX13_gaps_307 (by first | with_reducible assumption) (vp_in_nI (by omega) (by omega)) (by rw [nI_clamp (by omega)]; exact q2) ?_
                          refine v_lload dX13_gaps_308 2 rfl ?_
                          refine v_aload_n dX13_gaps_310 rfl 14 rfl ?_
                          refine v_getf 48 (ci := 11) (C := RX13) (T := TX13) (N := 71) rfl iwX13_gaps_X13 (Nat.le_of_ble_eq_true rfl) (by decide +kernel) dX13_gaps_311 (by first | with_reducible assumption) (by repeat (first | with_reducible assumption | (with_reducible refine (sv_ls (by first | omega | (simp only [List.length_set]; omega))).trans ?_; exact rfl) | with_reducible refine (List.getElem?_set_ne (by decide)).trans ?_)) ?_
                          refine v_iload dX13_gaps_314 4 rfl ?_
                          refine v_laldS (v := jN (itM (cc w) jj).1) dX13_gaps_316 (by first | with_reducible assumption) (vp_in_nI (by omega) (by omega)) (by rw [nI_clamp (by omega)]; exact p2) ?_
                          refine v_lload dX13_gaps_317 1 rfl ?_
                          refine v_iload dX13_gaps_319 7 rfl ?_
                          refine v_iload dX13_gaps_321 6 rfl ?_
                          refine v_lload dX13_gaps_323 3 rfl ?_
                          refine v_callVq (M' := mX13_tell) (n := 7) (As := [_, _, _, _, _, _, _]) (ci := 11) (r := (RX13, TX13, 71)) gX13_gaps_X13_tell rfl (by decide +kernel) ⟨(Nat.le_of_ble_eq_true rfl), (Nat.le_of_ble_eq_true rfl)⟩ rfl rfl dX13_gaps_325 rfl ⟨(Nat.le_of_ble_eq_true rfl), (Nat.le_of_ble_eq_true rfl)⟩ (Nat.le_of_ble_eq_true rfl) (by first | with_reducible assumption) rfl (m_tell G _ b nc np pl R hm p3 p4 sz ly vo mp X Y hb fs0 hq0 MY O MO o ho how d hd h60 h61 mc hmc h62 hMB h fs hm9 hl hE fr _ T (itM (cc v) ii).1 (max (itM (cc v) ii).2.1 (itM (cc w) jj).2.1) (itM (cc w) jj).1 (min (itM (cc v) ii).2.2 (itM (cc w) jj).2.2) a c ((itM (cc w) jj).1 - (itM (cc v) ii).1) (by omega) (by omega) (by omega) (by omega) (by omega) (by omega)) (fun v9 h1 z1 hq9 => ?_)
                          obtain ⟨rfl, rfl, fs1, u1, u2, u3, u4, T1⟩ := hq9
                          refine v_goto (tgt := 359) dX13_gaps_328 (by decide) ?_
                          refine v_iinc (j := 4) (L' := [(11, _), (18, _), (16, _), (14, _), (12, _), (10, _), (9, _), (8, _), (7, _), (5, _), (4, _), (3, _), (2, _), (1, _), (0, _)]) (v := nI (16 * w + (jj + 1))) dX13_gaps_359 rfl (nI_1 _) (Nat.le_of_ble_eq_true rfl) rfl ?_
                          refine v_goto (tgt := 71) dX13_gaps_362 (by decide) ?_
                          refine v_sub (L' := [(11, _), (10, _), (9, _), (8, _), (7, _), (5, _), (4, _), (3, _), (2, _), (1, _), (0, _)]) [0, 5, 6, 7, 8, 9, 10, 11, 12, 13, 14] rfl ?_
                          first
                            | exact absurd (show (1 : Int32) = 0 from c_288) (by decide)
                            | exact absurd rfl (show ¬ (0 : Int32) = 0 from c_288)
                            | (have c9 := T1
                               refine ih (jj + 1) h1 fs1 (by omega) u1 u2 u3 u4 ?_
                               rw [rgm_s, ← List.append_assoc, show (gpR (mvW mp ((O.getD o ([], 0)).1.take d)) fV fW near x3.toInt (lrn x4).toInt x6 a c (mc : Int) (fcM (twS (cc v) (n v)) (cc v)) (fcM (twS (cc w) (n w)) (cc w)) (itM (cc v)) (itM (cc w)) ii jj) = [_] from (if_pos ⟨hf1, hf2⟩).trans (congrArg (List.map (mvR (mvW mp ((O.getD o ([], 0)).1.take d)))) (if_pos hcon))]
                               first
                                 | (rw [if_pos (show upr fV = true from (upr_2 fV hfV).trans (decide_eq_true c_297))]; exact c9)
                                 | (rw [if_neg (show ¬ upr fV = true from fun e9 => c_297 (of_decide_eq_true ((upr_2 fV hfV).symm.trans e9)))]; exact c9))
                            | (refine ih (jj + 1) h fs (by omega) hm9 hl hE fr ?_
                               rw [rgm_s, show (gpR (mvW mp ((O.getD o ([], 0)).1.take d)) fV fW near x3.toInt (lrn x4).toInt x6 a c (mc : Int) (fcM (twS (cc v) (n v)) (cc v)) (fcM (twS (cc w) (n w)) (cc w)) (itM (cc v)) (itM (cc w)) ii jj) = [] from ?_, List.append_nil]
                               · exact T
                               · first
                                   | exact if_neg (fun r9 => c_112 (congrArg nI r9.1))
                                   | exact if_neg (fun r9 => c_124 (congrArg nI r9.2))
                                   | (unfold gpR
                                      split
                                      · rw [show acR (upr fV) near x3.toInt (lrn x4).toInt x6 a c (mc : Int) (itM (cc v) ii) (itM (cc w) jj) = [] from if_neg (fun r9 => (by
                                          first
                                            | exact absurd ((jN_lt (by omega) (by omega) (by omega) (by omega)).mp c_132) (Int.not_lt.mpr r9.1)
                                            | exact absurd ((jN_lt (by omega) (by omega) (by omega) (by omega)).mpr r9.2.1) c_147
                                            | exact absurd ((jN_lt (by omega) (by omega) (by omega) (by omega)).mp c_283) (Int.not_lt.mpr r9.2.2.1)
                                            | (have g1 := mt (jN_lt (b := 0) (by omega) (by omega) (by omega) (by omega)).mpr c_202
                                               have g2 := mt (jN_lt (by omega) (by omega) (by omega) (by omega)).mpr c_230
                                               have g3 := (jN_le (by omega) (by omega) (by omega) (by omega)).mp c_258
                                               rcases r9.2.2.2 with e9 | e9
                                               · rw [e9] at g1
                                                 exact g1 (by decide)
                                               · omega)))]
                                        rfl
                                      · rfl))
                      · refine v_goto (tgt := 359) dX13_gaps_291 (by decide) ?_
                        refine v_iinc (j := 4) (L' := [(11, _), (18, _), (16, _), (14, _), (12, _), (10, _), (9, _), (8, _), (7, _), (5, _), (4, _), (3, _), (2, _), (1, _), (0, _)]) (v := nI (16 * w + (jj + 1))) dX13_gaps_359 rfl (nI_1 _) (Nat.le_of_ble_eq_true rfl) rfl ?_
                        refine v_goto (tgt := 71) dX13_gaps_362 (by decide) ?_
                        refine v_sub (L' := [(11, _), (10, _), (9, _), (8, _), (7, _), (5, _), (4, _), (3, _), (2, _), (1, _), (0, _)]) [0, 5, 6, 7, 8, 9, 10, 11, 12, 13, 14] rfl ?_
                        first
                          | exact absurd (show (1 : Int32) = 0 from c_288) (by decide)
                          | exact absurd rfl (show ¬ (0 : Int32) = 0 from c_288)
                          | (have c9 := T1
                             refine ih (jj + 1) h1 fs1 (by omega) u1 u2 u3 u4 ?_
                             rw [rgm_s, ← List.append_assoc, show (gpR (mvW mp ((O.getD o ([], 0)).1.take d)) fV fW near x3.toInt (lrn x4).toInt x6 a c (mc : Int) (fcM (twS (cc v) (n v)) (cc v)) (fcM (twS (cc w) (n w)) (cc w)) (itM (cc v)) (itM (cc w)) ii jj) = [_] from (if_pos ⟨hf1, hf2⟩).trans (congrArg (List.map (mvR (mvW mp ((O.getD o ([], 0)).1.take d)))) (if_pos hcon))]
                             first
                               | (rw [if_pos (show upr fV = true from (upr_2 fV hfV).trans (decide_eq_true c_297))]; exact c9)
                               | (rw [if_neg (show ¬ upr fV = true from fun e9 => c_297 (of_decide_eq_true ((upr_2 fV hfV).symm.trans e9)))]; exact c9))
                          | (refine ih (jj + 1) h fs (by omega) hm9 hl hE fr ?_
                             rw [rgm_s, show (gpR (mvW mp ((O.getD o ([], 0)).1.take d)) fV fW near x3.toInt (lrn x4).toInt x6 a c (mc : Int) (fcM (twS (cc v) (n v)) (cc v)) (fcM (twS (cc w) (n w)) (cc w)) (itM (cc v)) (itM (cc w)) ii jj) = [] from ?_, List.append_nil]
                             · exact T
                             · first
                                 | exact if_neg (fun r9 => c_112 (congrArg nI r9.1))
                                 | exact if_neg (fun r9 => c_124 (congrArg nI r9.2))
                                 | (unfold gpR
                                    split
                                    · rw [show acR (upr fV) near x3.toInt (lrn x4).toInt x6 a c (mc : Int) (itM (cc v) ii) (itM (cc w) jj) = [] from if_neg (fun r9 => (by
                                        first
                                          | exact absurd ((jN_lt (by omega) (by omega) (by omega) (by omega)).mp c_132) (Int.not_lt.mpr r9.1)
                                          | exact absurd ((jN_lt (by omega) (by omega) (by omega) (by omega)).mpr r9.2.1) c_147
                                          | exact absurd ((jN_lt (by omega) (by omega) (by omega) (by omega)).mp c_283) (Int.not_lt.mpr r9.2.2.1)
                                          | (have g1 := mt (jN_lt (b := 0) (by omega) (by omega) (by omega) (by omega)).mpr c_202
                                             have g2 := mt (jN_lt (by omega) (by omega) (by omega) (by omega)).mpr c_230
                                             have g3 := (jN_le (by omega) (by omega) (by omega) (by omega)).mp c_258
                                             rcases r9.2.2.2 with e9 | e9
                                             · rw [e9] at g1
                                               exact g1 (by decide)
                                             · omega)))]
                                      rfl
                                    · rfl))
                  · refine v_iconst (v := 1) dX13_gaps_261 (by decide) ?_
                    refine v_goto (tgt := 266) dX13_gaps_262 (by decide) ?_
                    refine v_istore (L' := [(18, _), (16, _), (14, _), (12, _), (11, _), (10, _), (9, _), (8, _), (7, _), (5, _), (4, _), (3, _), (2, _), (1, _), (0, _)]) dX13_gaps_266 (Nat.le_of_ble_eq_true rfl) rfl ?_
                    refine v_lload dX13_gaps_268 1 rfl ?_
                    refine v_lload dX13_gaps_270 2 rfl ?_
                    refine v_lsub dX13_gaps_272 ?_
                    rw [← jN_sub]
                    refine v_aload_n dX13_gaps_273 rfl 14 rfl ?_
                    refine v_getf 23 (ci := 11) (C := RX13) (T := TX13) (N := 71) rfl iwX13_gaps_X13 (Nat.le_of_ble_eq_true rfl) (by decide +kernel) dX13_gaps_274 (by first | with_reducible assumption) (by repeat (first | with_reducible assumption | (with_reducible refine (sv_ls (by first | omega | (simp only [List.length_set]; omega))).trans ?_; exact rfl) | with_reducible refine (List.getElem?_set_ne (by decide)).trans ?_)) ?_
                    refine v_aload_n dX13_gaps_277 rfl 14 rfl ?_
                    refine v_getf 58 (ci := 11) (C := RX13) (T := TX13) (N := 71) rfl iwX13_gaps_X13 (Nat.le_of_ble_eq_true rfl) (by decide +kernel) dX13_gaps_278 (by first | with_reducible assumption) (by repeat (first | with_reducible assumption | (with_reducible refine (sv_ls (by first | omega | (simp only [List.length_set]; omega))).trans ?_; exact rfl) | with_reducible refine (List.getElem?_set_ne (by decide)).trans ?_)) ?_
                    refine v_laldS (v := jN (lrn x4).toInt) dX13_gaps_281 (by first | with_reducible assumption) (vp_in_nI (by omega) (by omega)) (by rw [nI_clamp (by omega)]; exact r37a) ?_
                    refine v_lcmp_lt (tgt := 359) dX13_gaps_282 dX13_gaps_283 (by decide) (fun c_283 => ?_) (fun c_283 => ?_)
                    · refine v_iinc (j := 4) (L' := [(11, _), (18, _), (16, _), (14, _), (12, _), (10, _), (9, _), (8, _), (7, _), (5, _), (4, _), (3, _), (2, _), (1, _), (0, _)]) (v := nI (16 * w + (jj + 1))) dX13_gaps_359 rfl (nI_1 _) (Nat.le_of_ble_eq_true rfl) rfl ?_
                      refine v_goto (tgt := 71) dX13_gaps_362 (by decide) ?_
                      refine v_sub (L' := [(11, _), (10, _), (9, _), (8, _), (7, _), (5, _), (4, _), (3, _), (2, _), (1, _), (0, _)]) [0, 5, 6, 7, 8, 9, 10, 11, 12, 13, 14] rfl ?_
                      first
                        | exact absurd (show (1 : Int32) = 0 from c_288) (by decide)
                        | exact absurd rfl (show ¬ (0 : Int32) = 0 from c_288)
                        | (have c9 := T1
                           refine ih (jj + 1) h1 fs1 (by omega) u1 u2 u3 u4 ?_
                           rw [rgm_s, ← List.append_assoc, show (gpR (mvW mp ((O.getD o ([], 0)).1.take d)) fV fW near x3.toInt (lrn x4).toInt x6 a c (mc : Int) (fcM (twS (cc v) (n v)) (cc v)) (fcM (twS (cc w) (n w)) (cc w)) (itM (cc v)) (itM (cc w)) ii jj) = [_] from (if_pos ⟨hf1, hf2⟩).trans (congrArg (List.map (mvR (mvW mp ((O.getD o ([], 0)).1.take d)))) (if_pos hcon))]
                           first
                             | (rw [if_pos (show upr fV = true from (upr_2 fV hfV).trans (decide_eq_true c_297))]; exact c9)
                             | (rw [if_neg (show ¬ upr fV = true from fun e9 => c_297 (of_decide_eq_true ((upr_2 fV hfV).symm.trans e9)))]; exact c9))
                        | (refine ih (jj + 1) h fs (by omega) hm9 hl hE fr ?_
                           rw [rgm_s, show (gpR (mvW mp ((O.getD o ([], 0)).1.take d)) fV fW near x3.toInt (lrn x4).toInt x6 a c (mc : Int) (fcM (twS (cc v) (n v)) (cc v)) (fcM (twS (cc w) (n w)) (cc w)) (itM (cc v)) (itM (cc w)) ii jj) = [] from ?_, List.append_nil]
                           · exact T
                           · first
                               | exact if_neg (fun r9 => c_112 (congrArg nI r9.1))
                               | exact if_neg (fun r9 => c_124 (congrArg nI r9.2))
                               | (unfold gpR
                                  split
                                  · rw [show acR (upr fV) near x3.toInt (lrn x4).toInt x6 a c (mc : Int) (itM (cc v) ii) (itM (cc w) jj) = [] from if_neg (fun r9 => (by
                                      first
                                        | exact absurd ((jN_lt (by omega) (by omega) (by omega) (by omega)).mp c_132) (Int.not_lt.mpr r9.1)
                                        | exact absurd ((jN_lt (by omega) (by omega) (by omega) (by omega)).mpr r9.2.1) c_147
                                        | exact absurd ((jN_lt (by omega) (by omega) (by omega) (by omega)).mp c_283) (Int.not_lt.mpr r9.2.2.1)
                                        | (have g1 := mt (jN_lt (b := 0) (by omega) (by omega) (by omega) (by omega)).mpr c_202
                                           have g2 := mt (jN_lt (by omega) (by omega) (by omega) (by omega)).mpr c_230
                                           have g3 := (jN_le (by omega) (by omega) (by omega) (by omega)).mp c_258
                                           rcases r9.2.2.2 with e9 | e9
                                           · rw [e9] at g1
                                             exact g1 (by decide)
                                           · omega)))]
                                    rfl
                                  · rfl))
                    · refine v_iload dX13_gaps_286 0 rfl ?_
                      refine v_if_ne (tgt := 294) dX13_gaps_288 (by decide) (fun c_288 => ?_) (fun c_288 => ?_)
                      · refine v_iload_n dX13_gaps_294 rfl 12 rfl ?_
                        refine v_iconst (v := 2) dX13_gaps_295 (by decide) ?_
                        refine v_irem dX13_gaps_296 (by decide) ?_
                        rw [fv_rem fV hfV]
                        refine v_if_ne (tgt := 331) dX13_gaps_297 (by decide) (fun c_297 => ?_) (fun c_297 => ?_)
                        · have hf1 : (fcM (twS (cc v) (n v)) (cc v)) ii = fV := nI_inj4 _ (fcM_4 _ _ _) _ hfV (by first | exact c_112 | exact Decidable.of_not_not c_112)
                          have hf2 : (fcM (twS (cc w) (n w)) (cc w)) jj = fW := nI_inj4 _ (fcM_4 _ _ _) _ hfW (by first | exact c_124 | exact Decidable.of_not_not c_124)
                          have hcon : near ≤ (itM (cc w) jj).1 - (itM (cc v) ii).1 ∧ (itM (cc w) jj).1 - (itM (cc v) ii).1 < x3.toInt ∧ (lrn x4).toInt ≤ min (itM (cc v) ii).2.2 (itM (cc w) jj).2.2 - max (itM (cc v) ii).2.1 (itM (cc w) jj).2.1 ∧ (x6 = -1 ∨ min ((itM (cc v) ii).2.2 - (itM (cc v) ii).2.1) ((itM (cc w) jj).2.2 - (itM (cc w) jj).2.1) < x6.toInt) := ⟨Int.not_lt.mp (mt (jN_lt (by omega) (by omega) (by omega) (by omega)).mpr c_132), (jN_lt (by omega) (by omega) (by omega) (by omega)).mp c_147, Int.not_lt.mp (mt (jN_lt (by omega) (by omega) (by omega) (by omega)).mpr c_283), (by
                            first
                              | (have g9 : x6.toInt < 0 := (jN_lt (b := 0) (by omega) (by omega) (by omega) (by omega)).mp c_202
                                 rcases hen with e9 | e9
                                 · exact Or.inl e9
                                 · rw [Int32.le_iff_toInt_le] at e9
                                   have e8 : (0 : Int32).toInt = 0 := rfl
                                   omega)
                              | (have g9 := (jN_lt (by omega) (by omega) (by omega) (by omega)).mp c_230
                                 exact Or.inr (by omega))
                              | (have g9 := mt (jN_le (by omega) (by omega) (by omega) (by omega)).mpr c_258
                                 exact Or.inr (by omega))
                              | exact absurd rfl (show ¬ (0 : Int32) = 0 from c_288))⟩
                          refine v_aload_n dX13_gaps_331 rfl 14 rfl ?_
                          refine v_lload dX13_gaps_332 2 rfl ?_
                          refine v_aload_n dX13_gaps_334 rfl 14 rfl ?_
                          refine v_getf 48 (ci := 11) (C := RX13) (T := TX13) (N := 71) rfl iwX13_gaps_X13 (Nat.le_of_ble_eq_true rfl) (by decide +kernel) dX13_gaps_335 (by first | with_reducible assumption) (by repeat (first | with_reducible assumption | (with_reducible refine (sv_ls (by first | omega | (simp only [List.length_set]; omega))).trans ?_; exact rfl) | with_reducible refine (List.getElem?_set_ne (by decide)).trans ?_)) ?_
                          refine v_iload dX13_gaps_338 5 rfl ?_
                          refine v_laldS (v := jN (itM (cc v) ii).1) dX13_gaps_340 (by first | with_reducible assumption) (vp_in_nI (by omega) (by omega)) (by rw [nI_clamp (by omega)]; exact q2) ?_
                          refine v_lload dX13_gaps_341 1 rfl ?_
                          refine v_aload_n dX13_gaps_343 rfl 14 rfl ?_
                          refine v_getf 48 (ci := 11) (C := RX13) (T := TX13) (N := 71) rfl iwX13_gaps_X13 (Nat.le_of_ble_eq_true rfl) (by decide +kernel) dX13_gaps_344 (by first | with_reducible assumption) (by repeat (first | with_reducible assumption | (with_reducible refine (sv_ls (by first | omega | (simp only [List.length_set]; omega))).trans ?_; exact rfl) | with_reducible refine (List.getElem?_set_ne (by decide)).trans ?_)) ?_
                          refine v_iload dX13_gaps_347 4 rfl ?_
                          refine v_laldS (v := jN (itM (cc w) jj).1) dX13_gaps_349 (by first | with_reducible assumption) (vp_in_nI (by omega) (by omega)) (by rw [nI_clamp (by omega)]; exact p2) ?_
                          refine v_iload dX13_gaps_350 7 rfl ?_
                          refine v_iload dX13_gaps_352 6 rfl ?_
                          refine v_lload dX13_gaps_354 3 rfl ?_
                          refine v_callVq (M' := mX13_tell) (n := 7) (As := [_, _, _, _, _, _, _]) (ci := 11) (r := (RX13, TX13, 71)) gX13_gaps_X13_tell rfl (by decide +kernel) ⟨(Nat.le_of_ble_eq_true rfl), (Nat.le_of_ble_eq_true rfl)⟩ rfl rfl dX13_gaps_356 rfl ⟨(Nat.le_of_ble_eq_true rfl), (Nat.le_of_ble_eq_true rfl)⟩ (Nat.le_of_ble_eq_true rfl) (by first | with_reducible assumption) rfl (m_tell G _ b nc np pl R hm p3 p4 sz ly vo mp X Y hb fs0 hq0 MY O MO o ho how d hd h60 h61 mc hmc h62 hMB h fs hm9 hl hE fr _ T (max (itM (cc v) ii).2.1 (itM (cc w) jj).2.1) (itM (cc v) ii).1 (min (itM (cc v) ii).2.2 (itM (cc w) jj).2.2) (itM (cc w) jj).1 a c ((itM (cc w) jj).1 - (itM (cc v) ii).1) (by omega) (by omega) (by omega) (by omega) (by omega) (by omega)) (fun v9 h1 z1 hq9 => ?_)
                          obtain ⟨rfl, rfl, fs1, u1, u2, u3, u4, T1⟩ := hq9
                          refine v_iinc (j := 4) (L' := [(11, _), (18, _), (16, _), (14, _), (12, _), (10, _), (9, _), (8, _), (7, _), (5, _), (4, _), (3, _), (2, _), (1, _), (0, _)]) (v := nI (16 * w + (jj + 1))) dX13_gaps_359 rfl (nI_1 _) (Nat.le_of_ble_eq_true rfl) rfl ?_
                          refine v_goto (tgt := 71) dX13_gaps_362 (by decide) ?_
                          refine v_sub (L' := [(11, _), (10, _), (9, _), (8, _), (7, _), (5, _), (4, _), (3, _), (2, _), (1, _), (0, _)]) [0, 5, 6, 7, 8, 9, 10, 11, 12, 13, 14] rfl ?_
                          first
                            | exact absurd (show (1 : Int32) = 0 from c_288) (by decide)
                            | exact absurd rfl (show ¬ (0 : Int32) = 0 from c_288)
                            | (have c9 := T1
                               refine ih (jj + 1) h1 fs1 (by omega) u1 u2 u3 u4 ?_
                               rw [rgm_s, ← List.append_assoc, show (gpR (mvW mp ((O.getD o ([], 0)).1.take d)) fV fW near x3.toInt (lrn x4).toInt x6 a c (mc : Int) (fcM (twS (cc v) (n v)) (cc v)) (fcM (twS (cc w) (n w)) (cc w)) (itM (cc v)) (itM (cc w)) ii jj) = [_] from (if_pos ⟨hf1, hf2⟩).trans (congrArg (List.map (mvR (mvW mp ((O.getD o ([], 0)).1.take d)))) (if_pos hcon))]
                               first
                                 | (rw [if_pos (show upr fV = true from (upr_2 fV hfV).trans (decide_eq_true c_297))]; exact c9)
                                 | (rw [if_neg (show ¬ upr fV = true from fun e9 => c_297 (of_decide_eq_true ((upr_2 fV hfV).symm.trans e9)))]; exact c9))
                            | (refine ih (jj + 1) h fs (by omega) hm9 hl hE fr ?_
                               rw [rgm_s, show (gpR (mvW mp ((O.getD o ([], 0)).1.take d)) fV fW near x3.toInt (lrn x4).toInt x6 a c (mc : Int) (fcM (twS (cc v) (n v)) (cc v)) (fcM (twS (cc w) (n w)) (cc w)) (itM (cc v)) (itM (cc w)) ii jj) = [] from ?_, List.append_nil]
                               · exact T
                               · first
                                   | exact if_neg (fun r9 => c_112 (congrArg nI r9.1))
                                   | exact if_neg (fun r9 => c_124 (congrArg nI r9.2))
                                   | (unfold gpR
                                      split
                                      · rw [show acR (upr fV) near x3.toInt (lrn x4).toInt x6 a c (mc : Int) (itM (cc v) ii) (itM (cc w) jj) = [] from if_neg (fun r9 => (by
                                          first
                                            | exact absurd ((jN_lt (by omega) (by omega) (by omega) (by omega)).mp c_132) (Int.not_lt.mpr r9.1)
                                            | exact absurd ((jN_lt (by omega) (by omega) (by omega) (by omega)).mpr r9.2.1) c_147
                                            | exact absurd ((jN_lt (by omega) (by omega) (by omega) (by omega)).mp c_283) (Int.not_lt.mpr r9.2.2.1)
                                            | (have g1 := mt (jN_lt (b := 0) (by omega) (by omega) (by omega) (by omega)).mpr c_202
                                               have g2 := mt (jN_lt (by omega) (by omega) (by omega) (by omega)).mpr c_230
                                               have g3 := (jN_le (by omega) (by omega) (by omega) (by omega)).mp c_258
                                               rcases r9.2.2.2 with e9 | e9
                                               · rw [e9] at g1
                                                 exact g1 (by decide)
                                               · omega)))]
                                        rfl
                                      · rfl))
                        · have hf1 : (fcM (twS (cc v) (n v)) (cc v)) ii = fV := nI_inj4 _ (fcM_4 _ _ _) _ hfV (by first | exact c_112 | exact Decidable.of_not_not c_112)
                          have hf2 : (fcM (twS (cc w) (n w)) (cc w)) jj = fW := nI_inj4 _ (fcM_4 _ _ _) _ hfW (by first | exact c_124 | exact Decidable.of_not_not c_124)
                          have hcon : near ≤ (itM (cc w) jj).1 - (itM (cc v) ii).1 ∧ (itM (cc w) jj).1 - (itM (cc v) ii).1 < x3.toInt ∧ (lrn x4).toInt ≤ min (itM (cc v) ii).2.2 (itM (cc w) jj).2.2 - max (itM (cc v) ii).2.1 (itM (cc w) jj).2.1 ∧ (x6 = -1 ∨ min ((itM (cc v) ii).2.2 - (itM (cc v) ii).2.1) ((itM (cc w) jj).2.2 - (itM (cc w) jj).2.1) < x6.toInt) := ⟨Int.not_lt.mp (mt (jN_lt (by omega) (by omega) (by omega) (by omega)).mpr c_132), (jN_lt (by omega) (by omega) (by omega) (by omega)).mp c_147, Int.not_lt.mp (mt (jN_lt (by omega) (by omega) (by omega) (by omega)).mpr c_283), (by
                            first
                              | (have g9 : x6.toInt < 0 := (jN_lt (b := 0) (by omega) (by omega) (by omega) (by omega)).mp c_202
                                 rcases hen with e9 | e9
                                 · exact Or.inl e9
                                 · rw [Int32.le_iff_toInt_le] at e9
                                   have e8 : (0 : Int32).toInt = 0 := rfl
                                   omega)
                              | (have g9 := (jN_lt (by omega) (by omega) (by omega) (by omega)).mp c_230
                                 exact Or.inr (by omega))
                              | (have g9 := mt (jN_le (by omega) (by omega) (by omega) (by omega)).mpr c_258
                                 exact Or.inr (by omega))
                              | exact absurd rfl (show ¬ (0 : Int32) = 0 from c_288))⟩
                          refine v_aload_n dX13_gaps_300 rfl 14 rfl ?_
                          refine v_aload_n dX13_gaps_301 rfl 14 rfl ?_
                          refine v_getf 48 (ci := 11) (C := RX13) (T := TX13) (N := 71) rfl iwX13_gaps_X13 (Nat.le_of_ble_eq_true rfl) (by decide +kernel) dX13_gaps_302 (by first | with_reducible assumption) (by repeat (first | with_reducible assumption | (with_reducible refine (sv_ls (by first | omega | (simp only [List.length_set]; omega))).trans ?_; exact rfl) | with_reducible refine (List.getElem?_set_ne (by decide)).trans ?_)) ?_
                          refine v_iload dX13_gaps_305 5 rfl ?_
                          refine v_laldS (v := jN (itM (cc v) ii).1) dX13_gaps_307 (by first | with_reducible assumption) (vp_in_nI (by omega) (by omega)) (by rw [nI_clamp (by omega)]; exact q2) ?_
                          refine v_lload dX13_gaps_308 2 rfl ?_
                          refine v_aload_n dX13_gaps_310 rfl 14 rfl ?_
                          refine v_getf 48 (ci := 11) (C := RX13) (T := TX13) (N := 71) rfl iwX13_gaps_X13 (Nat.le_of_ble_eq_true rfl) (by decide +kernel) dX13_gaps_311 (by first | with_reducible assumption) (by repeat (first | with_reducible assumption | (with_reducible refine (sv_ls (by first | omega | (simp only [List.length_set]; omega))).trans ?_; exact rfl) | with_reducible refine (List.getElem?_set_ne (by decide)).trans ?_)) ?_
                          refine v_iload dX13_gaps_314 4 rfl ?_
                          refine v_laldS (v := jN (itM (cc w) jj).1) dX13_gaps_316 (by first | with_reducible assumption) (vp_in_nI (by omega) (by omega)) (by rw [nI_clamp (by omega)]; exact p2) ?_
                          refine v_lload dX13_gaps_317 1 rfl ?_
                          refine v_iload dX13_gaps_319 7 rfl ?_
                          refine v_iload dX13_gaps_321 6 rfl ?_
                          refine v_lload dX13_gaps_323 3 rfl ?_
                          refine v_callVq (M' := mX13_tell) (n := 7) (As := [_, _, _, _, _, _, _]) (ci := 11) (r := (RX13, TX13, 71)) gX13_gaps_X13_tell rfl (by decide +kernel) ⟨(Nat.le_of_ble_eq_true rfl), (Nat.le_of_ble_eq_true rfl)⟩ rfl rfl dX13_gaps_325 rfl ⟨(Nat.le_of_ble_eq_true rfl), (Nat.le_of_ble_eq_true rfl)⟩ (Nat.le_of_ble_eq_true rfl) (by first | with_reducible assumption) rfl (m_tell G _ b nc np pl R hm p3 p4 sz ly vo mp X Y hb fs0 hq0 MY O MO o ho how d hd h60 h61 mc hmc h62 hMB h fs hm9 hl hE fr _ T (itM (cc v) ii).1 (max (itM (cc v) ii).2.1 (itM (cc w) jj).2.1) (itM (cc w) jj).1 (min (itM (cc v) ii).2.2 (itM (cc w) jj).2.2) a c ((itM (cc w) jj).1 - (itM (cc v) ii).1) (by omega) (by omega) (by omega) (by omega) (by omega) (by omega)) (fun v9 h1 z1 hq9 => ?_)
                          obtain ⟨rfl, rfl, fs1, u1, u2, u3, u4, T1⟩ := hq9
                          refine v_goto (tgt := 359) dX13_gaps_328 (by decide) ?_
                          refine v_iinc (j := 4) (L' := [(11, _), (18, _), (16, _), (14, _), (12, _), (10, _), (9, _), (8, _), (7, _), (5, _), (4, _), (3, _), (2, _), (1, _), (0, _)]) (v := nI (16 * w + (jj + 1))) dX13_gaps_359 rfl (nI_1 _) (Nat.le_of_ble_eq_true rfl) rfl ?_
                          refine v_goto (tgt := 71) dX13_gaps_362 (by decide) ?_
                          refine v_sub (L' := [(11, _), (10, _), (9, _), (8, _), (7, _), (5, _), (4, _), (3, _), (2, _), (1, _), (0, _)]) [0, 5, 6, 7, 8, 9, 10, 11, 12, 13, 14] rfl ?_
                          first
                            | exact absurd (show (1 : Int32) = 0 from c_288) (by decide)
                            | exact absurd rfl (show ¬ (0 : Int32) = 0 from c_288)
                            | (have c9 := T1
                               refine ih (jj + 1) h1 fs1 (by omega) u1 u2 u3 u4 ?_
                               rw [rgm_s, ← List.append_assoc, show (gpR (mvW mp ((O.getD o ([], 0)).1.take d)) fV fW near x3.toInt (lrn x4).toInt x6 a c (mc : Int) (fcM (twS (cc v) (n v)) (cc v)) (fcM (twS (cc w) (n w)) (cc w)) (itM (cc v)) (itM (cc w)) ii jj) = [_] from (if_pos ⟨hf1, hf2⟩).trans (congrArg (List.map (mvR (mvW mp ((O.getD o ([], 0)).1.take d)))) (if_pos hcon))]
                               first
                                 | (rw [if_pos (show upr fV = true from (upr_2 fV hfV).trans (decide_eq_true c_297))]; exact c9)
                                 | (rw [if_neg (show ¬ upr fV = true from fun e9 => c_297 (of_decide_eq_true ((upr_2 fV hfV).symm.trans e9)))]; exact c9))
                            | (refine ih (jj + 1) h fs (by omega) hm9 hl hE fr ?_
                               rw [rgm_s, show (gpR (mvW mp ((O.getD o ([], 0)).1.take d)) fV fW near x3.toInt (lrn x4).toInt x6 a c (mc : Int) (fcM (twS (cc v) (n v)) (cc v)) (fcM (twS (cc w) (n w)) (cc w)) (itM (cc v)) (itM (cc w)) ii jj) = [] from ?_, List.append_nil]
                               · exact T
                               · first
                                   | exact if_neg (fun r9 => c_112 (congrArg nI r9.1))
                                   | exact if_neg (fun r9 => c_124 (congrArg nI r9.2))
                                   | (unfold gpR
                                      split
                                      · rw [show acR (upr fV) near x3.toInt (lrn x4).toInt x6 a c (mc : Int) (itM (cc v) ii) (itM (cc w) jj) = [] from if_neg (fun r9 => (by
                                          first
                                            | exact absurd ((jN_lt (by omega) (by omega) (by omega) (by omega)).mp c_132) (Int.not_lt.mpr r9.1)
                                            | exact absurd ((jN_lt (by omega) (by omega) (by omega) (by omega)).mpr r9.2.1) c_147
                                            | exact absurd ((jN_lt (by omega) (by omega) (by omega) (by omega)).mp c_283) (Int.not_lt.mpr r9.2.2.1)
                                            | (have g1 := mt (jN_lt (b := 0) (by omega) (by omega) (by omega) (by omega)).mpr c_202
                                               have g2 := mt (jN_lt (by omega) (by omega) (by omega) (by omega)).mpr c_230
                                               have g3 := (jN_le (by omega) (by omega) (by omega) (by omega)).mp c_258
                                               rcases r9.2.2.2 with e9 | e9
                                               · rw [e9] at g1
                                                 exact g1 (by decide)
                                               · omega)))]
                                        rfl
                                      · rfl))
                      · refine v_goto (tgt := 359) dX13_gaps_291 (by decide) ?_
                        refine v_iinc (j := 4) (L' := [(11, _), (18, _), (16, _), (14, _), (12, _), (10, _), (9, _), (8, _), (7, _), (5, _), (4, _), (3, _), (2, _), (1, _), (0, _)]) (v := nI (16 * w + (jj + 1))) dX13_gaps_359 rfl (nI_1 _) (Nat.le_of_ble_eq_true rfl) rfl ?_
                        refine v_goto (tgt := 71) dX13_gaps_362 (by decide) ?_
                        refine v_sub (L' := [(11, _), (10, _), (9, _), (8, _), (7, _), (5, _), (4, _), (3, _), (2, _), (1, _), (0, _)]) [0, 5, 6, 7, 8, 9, 10, 11, 12, 13, 14] rfl ?_
                        first
                          | exact absurd (show (1 : Int32) = 0 from c_288) (by decide)
                          | exact absurd rfl (show ¬ (0 : Int32) = 0 from c_288)
                          | (have c9 := T1
                             refine ih (jj + 1) h1 fs1 (by omega) u1 u2 u3 u4 ?_
                             rw [rgm_s, ← List.append_assoc, show (gpR (mvW mp ((O.getD o ([], 0)).1.take d)) fV fW near x3.toInt (lrn x4).toInt x6 a c (mc : Int) (fcM (twS (cc v) (n v)) (cc v)) (fcM (twS (cc w) (n w)) (cc w)) (itM (cc v)) (itM (cc w)) ii jj) = [_] from (if_pos ⟨hf1, hf2⟩).trans (congrArg (List.map (mvR (mvW mp ((O.getD o ([], 0)).1.take d)))) (if_pos hcon))]
                             first
                               | (rw [if_pos (show upr fV = true from (upr_2 fV hfV).trans (decide_eq_true c_297))]; exact c9)
                               | (rw [if_neg (show ¬ upr fV = true from fun e9 => c_297 (of_decide_eq_true ((upr_2 fV hfV).symm.trans e9)))]; exact c9))
                          | (refine ih (jj + 1) h fs (by omega) hm9 hl hE fr ?_
                             rw [rgm_s, show (gpR (mvW mp ((O.getD o ([], 0)).1.take d)) fV fW near x3.toInt (lrn x4).toInt x6 a c (mc : Int) (fcM (twS (cc v) (n v)) (cc v)) (fcM (twS (cc w) (n w)) (cc w)) (itM (cc v)) (itM (cc w)) ii jj) = [] from ?_, List.append_nil]
                             · exact T
                             · first
                                 | exact if_neg (fun r9 => c_112 (congrArg nI r9.1))
                                 | exact if_neg (fun r9 => c_124 (congrArg nI r9.2))
                                 | (unfold gpR
                                    split
                                    · rw [show acR (upr fV) near x3.toInt (lrn x4).toInt x6 a c (mc : Int) (itM (cc v) ii) (itM (cc w) jj) = [] from if_neg (fun r9 => (by
                                        first
                                          | exact absurd ((jN_lt (by omega) (by omega) (by omega) (by omega)).mp c_132) (Int.not_lt.mpr r9.1)
                                          | exact absurd ((jN_lt (by omega) (by omega) (by omega) (by omega)).mpr r9.2.1) c_147
                                          | exact absurd ((jN_lt (by omega) (by omega) (by omega) (by omega)).mp c_283) (Int.not_lt.mpr r9.2.2.1)
                                          | (have g1 := mt (jN_lt (b := 0) (by omega) (by omega) (by omega) (by omega)).mpr c_202
                                             have g2 := mt (jN_lt (by omega) (by omega) (by omega) (by omega)).mpr c_230
                                             have g3 := (jN_le (by omega) (by omega) (by omega) (by omega)).mp c_258
                                             rcases r9.2.2.2 with e9 | e9
                                             · rw [e9] at g1
                                               exact g1 (by decide)
                                             · omega)))]
                                      rfl
                                    · rfl))
            · refine v_goto (tgt := 359) dX13_gaps_150 (by decide) ?_
              refine v_iinc (j := 1) (L' := [(11, _), (12, _), (10, _), (9, _), (8, _), (7, _), (5, _), (4, _), (3, _), (2, _), (1, _), (0, _)]) (v := nI (16 * w + (jj + 1))) dX13_gaps_359 rfl (nI_1 _) (Nat.le_of_ble_eq_true rfl) rfl ?_
              refine v_goto (tgt := 71) dX13_gaps_362 (by decide) ?_
              refine v_sub (L' := [(11, _), (10, _), (9, _), (8, _), (7, _), (5, _), (4, _), (3, _), (2, _), (1, _), (0, _)]) [0, 2, 3, 4, 5, 6, 7, 8, 9, 10, 11] rfl ?_
              first
                | exact absurd (show (1 : Int32) = 0 from c_288) (by decide)
                | exact absurd rfl (show ¬ (0 : Int32) = 0 from c_288)
                | (have c9 := T1
                   refine ih (jj + 1) h1 fs1 (by omega) u1 u2 u3 u4 ?_
                   rw [rgm_s, ← List.append_assoc, show (gpR (mvW mp ((O.getD o ([], 0)).1.take d)) fV fW near x3.toInt (lrn x4).toInt x6 a c (mc : Int) (fcM (twS (cc v) (n v)) (cc v)) (fcM (twS (cc w) (n w)) (cc w)) (itM (cc v)) (itM (cc w)) ii jj) = [_] from (if_pos ⟨hf1, hf2⟩).trans (congrArg (List.map (mvR (mvW mp ((O.getD o ([], 0)).1.take d)))) (if_pos hcon))]
                   first
                     | (rw [if_pos (show upr fV = true from (upr_2 fV hfV).trans (decide_eq_true c_297))]; exact c9)
                     | (rw [if_neg (show ¬ upr fV = true from fun e9 => c_297 (of_decide_eq_true ((upr_2 fV hfV).symm.trans e9)))]; exact c9))
                | (refine ih (jj + 1) h fs (by omega) hm9 hl hE fr ?_
                   rw [rgm_s, show (gpR (mvW mp ((O.getD o ([], 0)).1.take d)) fV fW near x3.toInt (lrn x4).toInt x6 a c (mc : Int) (fcM (twS (cc v) (n v)) (cc v)) (fcM (twS (cc w) (n w)) (cc w)) (itM (cc v)) (itM (cc w)) ii jj) = [] from ?_, List.append_nil]
                   · exact T
                   · first
                       | exact if_neg (fun r9 => c_112 (congrArg nI r9.1))
                       | exact if_neg (fun r9 => c_124 (congrArg nI r9.2))
                       | (unfold gpR
                          split
                          · rw [show acR (upr fV) near x3.toInt (lrn x4).toInt x6 a c (mc : Int) (itM (cc v) ii) (itM (cc w) jj) = [] from if_neg (fun r9 => (by
                              first
                                | exact absurd ((jN_lt (by omega) (by omega) (by omega) (by omega)).mp c_132) (Int.not_lt.mpr r9.1)
                                | exact absurd ((jN_lt (by omega) (by omega) (by omega) (by omega)).mpr r9.2.1) c_147
                                | exact absurd ((jN_lt (by omega) (by omega) (by omega) (by omega)).mp c_283) (Int.not_lt.mpr r9.2.2.1)
                                | (have g1 := mt (jN_lt (b := 0) (by omega) (by omega) (by omega) (by omega)).mpr c_202
                                   have g2 := mt (jN_lt (by omega) (by omega) (by omega) (by omega)).mpr c_230
                                   have g3 := (jN_le (by omega) (by omega) (by omega) (by omega)).mp c_258
                                   rcases r9.2.2.2 with e9 | e9
                                   · rw [e9] at g1
                                     exact g1 (by decide)
                                   · omega)))]
                            rfl
                          · rfl))

set_option maxHeartbeats 4000000 in
set_option maxRecDepth 100000 in
theorem l_gpO (G : sv_G) (z b nc np pl : Nat) (R : Nat → Bool) (hm p3 p4 sz : Nat → Nat) (ly vo : Nat → Int32) (mp : Nat → mvT) (X Y : Nat → Nat → Int) (hb : sv_h) (fs0 : List Value) (hq0 : mfq_ b nc np pl fs0) (MY : myl_ G hb b nc np pl R hm p3 p4 sz ly vo mp X Y) (O : List (List Nat × Nat)) (MO : moc_ G hb b O) (o : Nat) (ho : o < O.length) (how : ∀ i, i ∈ (O.getD o ([], 0)).1 → i < pl) (d : Nat) (hd : d ≤ (O.getD o ([], 0)).1.length) (h60 : fs0[60]? = some (.int (nI o))) (h61 : fs0[61]? = some (.int (nI d))) (mc : Nat) (hmc : mc < 100) (h62 : fs0[62]? = some (.int (nI mc))) (hMB : ∀ x y : Int, -200000 ≤ x ∧ x ≤ 200000 → -200000 ≤ y ∧ y ≤ 200000 → (-1000000000 ≤ (mvA (mvW mp ((O.getD o ([], 0)).1.take d)) (x, y)).1 ∧ (mvA (mvW mp ((O.getD o ([], 0)).1.take d)) (x, y)).1 ≤ 1000000000) ∧ (-1000000000 ≤ (mvA (mvW mp ((O.getD o ([], 0)).1.take d)) (x, y)).2 ∧ (mvA (mvW mp ((O.getD o ([], 0)).1.take d)) (x, y)).2 ≤ 1000000000)) (ri kd : Nat) (l1 l2 x3 x4 x5 x6 : Int32) (RU : mru_ G hb b ri kd l1 l2 x3 x4 x5 x6) (h58 : fs0[58]? = some (.int (nI ri))) (hen : x6 = -1 ∨ 0 ≤ x6) (kk : Nat) (n pg : Nat → Nat) (cc : Nat → Nat → Int × Int) (LD : mld_ G hb b kk n pg cc) (LK : mlk_ kk n pg cc) (v w fV fW : Nat) (hv : v < kk) (hw : w < kk) (hfV : fV < 4) (hfW : fW < 4) (near : Int) (hne : 0 ≤ near ∧ near ≤ 1) (tu : Int32) (a c : Int) (ha : -1 ≤ a ∧ a < 64) (hc : -1 ≤ c ∧ c < 64) (E0 : List (List Int64)) : ∀ (e ii : Nat) (h : sv_h) (fs : List Value), ii + e = n v → h (b + 220) = some (.inr (11, fs)) → fs.length = 71 → fsE [28, 29, 52, 53] fs0 fs → (∀ a, a ≠ b + 220 → a ≠ b + 241 → h a = hb a) → mT_ gu G h b fs ((E0 ++ (List.range ii).flatMap (fun i => (List.range (n w)).flatMap (fun j => (gpR (mvW mp ((O.getD o ([], 0)).1.take d)) fV fW near x3.toInt (lrn x4).toInt x6 a c (mc : Int) (fcM (twS (cc v) (n v)) (cc v)) (fcM (twS (cc w) (n w)) (cc w)) (itM (cc v)) (itM (cc w)) i j))))) → V G mX13_gaps (sv_MQ G mX13_gaps (fun v9 h1 z1 => v9 = none ∧ z1 = z ∧ ∃ fs1, h1 (b + 220) = some (.inr (11, fs1)) ∧ fs1.length = 71 ∧ fsE [28, 29, 52, 53] fs0 fs1 ∧ (∀ a, a ≠ b + 220 → a ≠ b + 241 → h1 a = hb a) ∧ mT_ gu G h1 b fs1 (E0 ++ gpL (mvW mp ((O.getD o ([], 0)).1.take d)) fV fW near x3.toInt (lrn x4).toInt x6 a c (mc : Int) (fcM (twS (cc v) (n v)) (cc v)) (fcM (twS (cc w) (n w)) (cc w)) (itM (cc v)) (itM (cc w)) (n v) (n w)))) 49 [(10, .int (nI (16 * v + ii))), (9, .int (iN c)), (8, .int (iN a)), (7, .int tu), (5, .long (jN near)), (4, .int (nI fW)), (3, .int (nI w)), (2, .int (nI fV)), (1, .int (nI v)), (0, .ref (b + 220))] [] h z 0 0 := by
  intro e
  induction e with
  | zero =>
    intro ii h fs hie hm9 hl hE fr T
    obtain ⟨k0, k1⟩ := id LK
    obtain ⟨r0, r1, ⟨j33, r33, r33a⟩, ⟨j34, r34, r34a⟩, ⟨j35, r35, r35a⟩, ⟨j36, r36, r36a⟩, ⟨j37, r37, r37a⟩, ⟨j38, r38, r38a⟩, ⟨j39, r39, r39a⟩⟩ := id RU
    obtain ⟨fsd, fo, ft, ff, gx, gy, gp, gl, gh, d49, d50, d51, d52, d53, d54, d55, d56, d57, dd⟩ := id LD
    obtain ⟨⟨zv1, zv2⟩, pv, cv⟩ := k1 v hv
    obtain ⟨⟨zw1, zw2⟩, pw, cw⟩ := k1 w hw
    obtain ⟨sv1, sv2, sv3, sv4, sv5⟩ := dd v hv
    obtain ⟨sw1, sw2, sw3, sw4, sw5⟩ := dd w hw
    have hqf := hq0.to (S := [28, 29, 52, 53]) hl hE (by decide)
    have hlen : fs.length = 71 := hl
    have f_sides := hqf.f_sides
    have f_face := hqf.f_face
    have f_pos := hqf.f_pos
    have f_low := hqf.f_low
    have f_high := hqf.f_high
    have f_ofPolygon := hqf.f_ofPolygon
    have f_bound := hqf.f_bound
    have f_run := hqf.f_run
    have f_end := hqf.f_end
    have f_rule : fs[58]? = some (.int (nI ri)) := (hE 58 (by decide)).trans h58
    have w249 : ab_I G h (b + 249) 2 fsd := (fr _ (by omega) (by omega)).trans d49
    have w253 : ab_I G h (b + 253) 32 ff := (fr _ (by omega) (by omega)).trans d53
    have w254 : ab_J G h (b + 254) 32 gp := (fr _ (by omega) (by omega)).trans d54
    have w255 : ab_J G h (b + 255) 32 gl := (fr _ (by omega) (by omega)).trans d55
    have w256 : ab_J G h (b + 256) 32 gh := (fr _ (by omega) (by omega)).trans d56
    have w257 : ab_I G h (b + 257) 2 fo := (fr _ (by omega) (by omega)).trans d57
    have w236 : ab_J G h (b + 236) 40 j36 := (fr _ (by omega) (by omega)).trans r36
    have w237 : ab_J G h (b + 237) 40 j37 := (fr _ (by omega) (by omega)).trans r37
    have w239 : ab_J G h (b + 239) 40 j39 := (fr _ (by omega) (by omega)).trans r39
    have X3a := x3.le_toInt
    have X3b := x3.toInt_lt
    have X4a := (lrn x4).le_toInt
    have X4b := (lrn x4).toInt_lt
    have X6a := x6.le_toInt
    have X6b := x6.toInt_lt
    have e9 : ii = n v := by omega
    subst e9
    refine v_iload dX13_gaps_49 0 rfl ?_
    refine v_bipush (v := 16) dX13_gaps_51 (by decide) ?_
    refine v_iload_n dX13_gaps_53 rfl 8 rfl ?_
    refine v_imul dX13_gaps_54 ?_
    refine v_aload_n dX13_gaps_55 rfl 9 rfl ?_
    refine v_getf 43 (ci := 11) (C := RX13) (T := TX13) (N := 71) rfl iwX13_gaps_X13 (Nat.le_of_ble_eq_true rfl) (by decide +kernel) dX13_gaps_56 (by first | with_reducible assumption) (by repeat (first | with_reducible assumption | (with_reducible refine (sv_ls (by first | omega | (simp only [List.length_set]; omega))).trans ?_; exact rfl) | with_reducible refine (List.getElem?_set_ne (by decide)).trans ?_)) ?_
    refine v_iload_n dX13_gaps_59 rfl 8 rfl ?_
    refine v_ialdS (v := nI (n v)) dX13_gaps_60 (by first | with_reducible assumption) (vp_in_nI (by omega) (by omega)) (by rw [nI_clamp (by omega)]; exact sv1) ?_
    refine v_iadd dX13_gaps_61 ?_
    rw [sv_16a]
    refine v_icmp_ge (tgt := 371) dX13_gaps_62 (by decide) (fun c_62 => ?_) (fun c_62 => ?_)
    · exact v_ret rfl dX13_gaps_371 (Nat.le_of_ble_eq_true rfl) (Nat.le_of_ble_eq_true rfl) ⟨rfl, rfl, fs, hm9, hl, hE, fr, T⟩
    · exact absurd (nI_le (Nat.le_refl _) (by omega)) c_62
  | succ e ih =>
    intro ii h fs hie hm9 hl hE fr T
    obtain ⟨k0, k1⟩ := id LK
    obtain ⟨r0, r1, ⟨j33, r33, r33a⟩, ⟨j34, r34, r34a⟩, ⟨j35, r35, r35a⟩, ⟨j36, r36, r36a⟩, ⟨j37, r37, r37a⟩, ⟨j38, r38, r38a⟩, ⟨j39, r39, r39a⟩⟩ := id RU
    obtain ⟨fsd, fo, ft, ff, gx, gy, gp, gl, gh, d49, d50, d51, d52, d53, d54, d55, d56, d57, dd⟩ := id LD
    obtain ⟨⟨zv1, zv2⟩, pv, cv⟩ := k1 v hv
    obtain ⟨⟨zw1, zw2⟩, pw, cw⟩ := k1 w hw
    obtain ⟨sv1, sv2, sv3, sv4, sv5⟩ := dd v hv
    obtain ⟨sw1, sw2, sw3, sw4, sw5⟩ := dd w hw
    have hqf := hq0.to (S := [28, 29, 52, 53]) hl hE (by decide)
    have hlen : fs.length = 71 := hl
    have f_sides := hqf.f_sides
    have f_face := hqf.f_face
    have f_pos := hqf.f_pos
    have f_low := hqf.f_low
    have f_high := hqf.f_high
    have f_ofPolygon := hqf.f_ofPolygon
    have f_bound := hqf.f_bound
    have f_run := hqf.f_run
    have f_end := hqf.f_end
    have f_rule : fs[58]? = some (.int (nI ri)) := (hE 58 (by decide)).trans h58
    have w249 : ab_I G h (b + 249) 2 fsd := (fr _ (by omega) (by omega)).trans d49
    have w253 : ab_I G h (b + 253) 32 ff := (fr _ (by omega) (by omega)).trans d53
    have w254 : ab_J G h (b + 254) 32 gp := (fr _ (by omega) (by omega)).trans d54
    have w255 : ab_J G h (b + 255) 32 gl := (fr _ (by omega) (by omega)).trans d55
    have w256 : ab_J G h (b + 256) 32 gh := (fr _ (by omega) (by omega)).trans d56
    have w257 : ab_I G h (b + 257) 2 fo := (fr _ (by omega) (by omega)).trans d57
    have w236 : ab_J G h (b + 236) 40 j36 := (fr _ (by omega) (by omega)).trans r36
    have w237 : ab_J G h (b + 237) 40 j37 := (fr _ (by omega) (by omega)).trans r37
    have w239 : ab_J G h (b + 239) 40 j39 := (fr _ (by omega) (by omega)).trans r39
    have X3a := x3.le_toInt
    have X3b := x3.toInt_lt
    have X4a := (lrn x4).le_toInt
    have X4b := (lrn x4).toInt_lt
    have X6a := x6.le_toInt
    have X6b := x6.toInt_lt
    refine v_iload dX13_gaps_49 0 rfl ?_
    refine v_bipush (v := 16) dX13_gaps_51 (by decide) ?_
    refine v_iload_n dX13_gaps_53 rfl 8 rfl ?_
    refine v_imul dX13_gaps_54 ?_
    refine v_aload_n dX13_gaps_55 rfl 9 rfl ?_
    refine v_getf 43 (ci := 11) (C := RX13) (T := TX13) (N := 71) rfl iwX13_gaps_X13 (Nat.le_of_ble_eq_true rfl) (by decide +kernel) dX13_gaps_56 (by first | with_reducible assumption) (by repeat (first | with_reducible assumption | (with_reducible refine (sv_ls (by first | omega | (simp only [List.length_set]; omega))).trans ?_; exact rfl) | with_reducible refine (List.getElem?_set_ne (by decide)).trans ?_)) ?_
    refine v_iload_n dX13_gaps_59 rfl 8 rfl ?_
    refine v_ialdS (v := nI (n v)) dX13_gaps_60 (by first | with_reducible assumption) (vp_in_nI (by omega) (by omega)) (by rw [nI_clamp (by omega)]; exact sv1) ?_
    refine v_iadd dX13_gaps_61 ?_
    rw [sv_16a]
    refine v_icmp_ge (tgt := 371) dX13_gaps_62 (by decide) (fun c_62 => ?_) (fun c_62 => ?_)
    · exact absurd c_62 (nI_ge (show 16 * v + ii < 16 * v + n v by omega) (by omega))
    · refine v_bipush (v := 16) dX13_gaps_65 (by decide) ?_
      refine v_iload_n dX13_gaps_67 rfl 6 rfl ?_
      refine v_imul dX13_gaps_68 ?_
      rw [show 16 * nI w = nI (16 * w + 0) from by rw [show (16 : Int32) = nI 16 from rfl, sv_nm2]; rfl]
      refine v_istore (L' := [(11, _), (10, _), (9, _), (8, _), (7, _), (5, _), (4, _), (3, _), (2, _), (1, _), (0, _)]) dX13_gaps_69 (Nat.le_of_ble_eq_true rfl) rfl ?_
      refine v_sub (L' := [(11, _), (10, _), (9, _), (8, _), (7, _), (5, _), (4, _), (3, _), (2, _), (1, _), (0, _)]) [0, 1, 2, 3, 4, 5, 6, 7, 8, 9, 10] rfl ?_
      refine l_gpI G _ _ b nc np pl R hm p3 p4 sz ly vo mp X Y hb fs0 hq0 MY O MO o ho how d hd h60 h61 mc hmc h62 hMB ri kd l1 l2 x3 x4 x5 x6 RU h58 hen kk n pg cc LD LK v w fV fW hv hw hfV hfW near hne tu a c ha hc ii (by omega) (E0 ++ (List.range ii).flatMap (fun i => (List.range (n w)).flatMap (fun j => (gpR (mvW mp ((O.getD o ([], 0)).1.take d)) fV fW near x3.toInt (lrn x4).toInt x6 a c (mc : Int) (fcM (twS (cc v) (n v)) (cc v)) (fcM (twS (cc w) (n w)) (cc w)) (itM (cc v)) (itM (cc w)) i j)))) (fun h2 fs2 v1 v2 v3 v4 v5 => ?_) (n w) 0 h fs (Nat.zero_add _) hm9 hl hE fr (by rw [List.range_zero, List.flatMap_nil, List.append_nil]; exact T)
      refine v_iinc (j := 0) (L' := [(10, _), (9, _), (8, _), (7, _), (5, _), (4, _), (3, _), (2, _), (1, _), (0, _)]) (v := nI (16 * v + (ii + 1))) dX13_gaps_365 rfl (nI_1 _) (Nat.le_of_ble_eq_true rfl) rfl ?_
      refine v_goto (tgt := 49) dX13_gaps_368 (by decide) ?_
      refine v_sub (L' := [(10, _), (9, _), (8, _), (7, _), (5, _), (4, _), (3, _), (2, _), (1, _), (0, _)]) [0, 1, 2, 3, 4, 5, 6, 7, 8, 9] rfl ?_
      refine ih (ii + 1) h2 fs2 (by omega) v1 v2 v3 v4 ?_
      rw [rgm_s, ← List.append_assoc]
      exact v5

set_option maxHeartbeats 4000000 in
set_option maxRecDepth 100000 in
theorem m_gaps (G : sv_G) (z b nc np pl : Nat) (R : Nat → Bool) (hm p3 p4 sz : Nat → Nat) (ly vo : Nat → Int32) (mp : Nat → mvT) (X Y : Nat → Nat → Int) (hb : sv_h) (fs0 : List Value) (hq0 : mfq_ b nc np pl fs0) (MY : myl_ G hb b nc np pl R hm p3 p4 sz ly vo mp X Y) (O : List (List Nat × Nat)) (MO : moc_ G hb b O) (o : Nat) (ho : o < O.length) (how : ∀ i, i ∈ (O.getD o ([], 0)).1 → i < pl) (d : Nat) (hd : d ≤ (O.getD o ([], 0)).1.length) (h60 : fs0[60]? = some (.int (nI o))) (h61 : fs0[61]? = some (.int (nI d))) (mc : Nat) (hmc : mc < 100) (h62 : fs0[62]? = some (.int (nI mc))) (hMB : ∀ x y : Int, -200000 ≤ x ∧ x ≤ 200000 → -200000 ≤ y ∧ y ≤ 200000 → (-1000000000 ≤ (mvA (mvW mp ((O.getD o ([], 0)).1.take d)) (x, y)).1 ∧ (mvA (mvW mp ((O.getD o ([], 0)).1.take d)) (x, y)).1 ≤ 1000000000) ∧ (-1000000000 ≤ (mvA (mvW mp ((O.getD o ([], 0)).1.take d)) (x, y)).2 ∧ (mvA (mvW mp ((O.getD o ([], 0)).1.take d)) (x, y)).2 ≤ 1000000000)) (ri kd : Nat) (l1 l2 x3 x4 x5 x6 : Int32) (RU : mru_ G hb b ri kd l1 l2 x3 x4 x5 x6) (h58 : fs0[58]? = some (.int (nI ri))) (hen : x6 = -1 ∨ 0 ≤ x6) (kk : Nat) (n pg : Nat → Nat) (cc : Nat → Nat → Int × Int) (LD : mld_ G hb b kk n pg cc) (LK : mlk_ kk n pg cc) (v w fV fW : Nat) (hv : v < kk) (hw : w < kk) (hfV : fV < 4) (hfW : fW < 4) (near : Int) (hne : 0 ≤ near ∧ near ≤ 1) (tu : Int32) (h : sv_h) (fs : List Value) (hm9 : h (b + 220) = some (.inr (11, fs))) (hl : fs.length = 71) (hE : fsE [28, 29, 52, 53] fs0 fs) (fr : (∀ a, a ≠ b + 220 → a ≠ b + 241 → h a = hb a)) (E0 : List (List Int64)) (T : mT_ gu G h b fs E0) : CT G mX13_gaps [.ref (b + 220), .int (nI v), .int (nI fV), .int (nI w), .int (nI fW), .long (jN near), .int tu] h z (fun v9 h1 z1 => v9 = none ∧ z1 = z ∧ ∃ fs1, h1 (b + 220) = some (.inr (11, fs1)) ∧ fs1.length = 71 ∧ fsE [28, 29, 52, 53] fs0 fs1 ∧ (∀ a, a ≠ b + 220 → a ≠ b + 241 → h1 a = hb a) ∧ mT_ gu G h1 b fs1 (E0 ++ gpL (mvW mp ((O.getD o ([], 0)).1.take d)) fV fW near x3.toInt (lrn x4).toInt x6 ((pg (if tu = 0 then v else w) : Nat) : Int) (if v = w then -1 else ((pg (if tu = 0 then w else v) : Nat) : Int)) (mc : Int) (fcM (twS (cc v) (n v)) (cc v)) (fcM (twS (cc w) (n w)) (cc w)) (itM (cc v)) (itM (cc w)) (n v) (n w))) := by
  refine CT.of (by decide +kernel) rfl rfl (Nat.le_of_ble_eq_true rfl) ?_
  obtain ⟨k0, k1⟩ := id LK
  obtain ⟨r0, r1, ⟨j33, r33, r33a⟩, ⟨j34, r34, r34a⟩, ⟨j35, r35, r35a⟩, ⟨j36, r36, r36a⟩, ⟨j37, r37, r37a⟩, ⟨j38, r38, r38a⟩, ⟨j39, r39, r39a⟩⟩ := id RU
  obtain ⟨fsd, fo, ft, ff, gx, gy, gp, gl, gh, d49, d50, d51, d52, d53, d54, d55, d56, d57, dd⟩ := id LD
  obtain ⟨⟨zv1, zv2⟩, pv, cv⟩ := k1 v hv
  obtain ⟨⟨zw1, zw2⟩, pw, cw⟩ := k1 w hw
  obtain ⟨sv1, sv2, sv3, sv4, sv5⟩ := dd v hv
  obtain ⟨sw1, sw2, sw3, sw4, sw5⟩ := dd w hw
  have hqf := hq0.to (S := [28, 29, 52, 53]) hl hE (by decide)
  have hlen : fs.length = 71 := hl
  have f_sides := hqf.f_sides
  have f_face := hqf.f_face
  have f_pos := hqf.f_pos
  have f_low := hqf.f_low
  have f_high := hqf.f_high
  have f_ofPolygon := hqf.f_ofPolygon
  have f_bound := hqf.f_bound
  have f_run := hqf.f_run
  have f_end := hqf.f_end
  have f_rule : fs[58]? = some (.int (nI ri)) := (hE 58 (by decide)).trans h58
  have w249 : ab_I G h (b + 249) 2 fsd := (fr _ (by omega) (by omega)).trans d49
  have w253 : ab_I G h (b + 253) 32 ff := (fr _ (by omega) (by omega)).trans d53
  have w254 : ab_J G h (b + 254) 32 gp := (fr _ (by omega) (by omega)).trans d54
  have w255 : ab_J G h (b + 255) 32 gl := (fr _ (by omega) (by omega)).trans d55
  have w256 : ab_J G h (b + 256) 32 gh := (fr _ (by omega) (by omega)).trans d56
  have w257 : ab_I G h (b + 257) 2 fo := (fr _ (by omega) (by omega)).trans d57
  have w236 : ab_J G h (b + 236) 40 j36 := (fr _ (by omega) (by omega)).trans r36
  have w237 : ab_J G h (b + 237) 40 j37 := (fr _ (by omega) (by omega)).trans r37
  have w239 : ab_J G h (b + 239) 40 j39 := (fr _ (by omega) (by omega)).trans r39
  have X3a := x3.le_toInt
  have X3b := x3.toInt_lt
  have X4a := (lrn x4).le_toInt
  have X4b := (lrn x4).toInt_lt
  have X6a := x6.le_toInt
  have X6b := x6.toInt_lt
  have hA : -1 ≤ ((pg (if tu = 0 then v else w) : Nat) : Int) ∧ ((pg (if tu = 0 then v else w) : Nat) : Int) < 64 := (by split <;> omega)
  have hC : -1 ≤ (if v = w then -1 else ((pg (if tu = 0 then w else v) : Nat) : Int)) ∧ (if v = w then -1 else ((pg (if tu = 0 then w else v) : Nat) : Int)) < 64 := (by split <;> (first | omega | (split <;> omega)))
  refine v_aload_n dX13_gaps_0 rfl 0 rfl ?_
  refine v_getf 51 (ci := 11) (C := RX13) (T := TX13) (N := 71) rfl iwX13_gaps_X13 (Nat.le_of_ble_eq_true rfl) (by decide +kernel) dX13_gaps_1 (by first | with_reducible assumption) (by repeat (first | with_reducible assumption | (with_reducible refine (sv_ls (by first | omega | (simp only [List.length_set]; omega))).trans ?_; exact rfl) | with_reducible refine (List.getElem?_set_ne (by decide)).trans ?_)) ?_
  refine v_iload dX13_gaps_4 6 rfl ?_
  refine v_if_eq (tgt := 13) dX13_gaps_6 (by decide) (fun c_6 => ?_) (fun c_6 => ?_)
  · refine v_iload_n dX13_gaps_13 rfl 1 rfl ?_
    refine v_ialdS (v := nI (pg (if tu = 0 then v else w))) dX13_gaps_14 (by first | with_reducible assumption) (vp_in_nI (by omega) (by omega)) (by first | (rw [nI_clamp (by omega), if_pos (show tu = 0 from c_6)]; exact sv2) | (rw [nI_clamp (by omega), if_neg (show ¬ tu = 0 from c_6)]; exact sw2)) ?_
    refine v_istore (L' := [(8, _), (0, _), (1, _), (2, _), (3, _), (4, _), (5, _), (7, _)]) dX13_gaps_15 (Nat.le_of_ble_eq_true rfl) rfl ?_
    refine v_iload_n dX13_gaps_17 rfl 2 rfl ?_
    refine v_iload_n dX13_gaps_18 rfl 4 rfl ?_
    refine v_icmp_ne (tgt := 26) dX13_gaps_19 (by decide) (fun c_19 => ?_) (fun c_19 => ?_)
    · refine v_aload_n dX13_gaps_26 rfl 1 rfl ?_
      refine v_getf 51 (ci := 11) (C := RX13) (T := TX13) (N := 71) rfl iwX13_gaps_X13 (Nat.le_of_ble_eq_true rfl) (by decide +kernel) dX13_gaps_27 (by first | with_reducible assumption) (by repeat (first | with_reducible assumption | (with_reducible refine (sv_ls (by first | omega | (simp only [List.length_set]; omega))).trans ?_; exact rfl) | with_reducible refine (List.getElem?_set_ne (by decide)).trans ?_)) ?_
      refine v_iload dX13_gaps_30 7 rfl ?_
      refine v_if_eq (tgt := 39) dX13_gaps_32 (by decide) (fun c_32 => ?_) (fun c_32 => ?_)
      · refine v_iload_n dX13_gaps_39 rfl 4 rfl ?_
        refine v_ialdS (v := nI (pg (if tu = 0 then w else v))) dX13_gaps_40 (by first | with_reducible assumption) (vp_in_nI (by omega) (by omega)) (by first | (rw [nI_clamp (by omega), if_pos (show tu = 0 from c_32)]; exact sw2) | (rw [nI_clamp (by omega), if_neg (show ¬ tu = 0 from c_32)]; exact sv2)) ?_
        refine v_istore (L' := [(9, _), (8, _), (0, _), (1, _), (2, _), (3, _), (4, _), (5, _), (7, _)]) dX13_gaps_41 (Nat.le_of_ble_eq_true rfl) rfl ?_
        refine v_bipush (v := 16) dX13_gaps_43 (by decide) ?_
        refine v_iload_n dX13_gaps_45 rfl 3 rfl ?_
        refine v_imul dX13_gaps_46 ?_
        rw [show 16 * nI v = nI (16 * v + 0) from by rw [show (16 : Int32) = nI 16 from rfl, sv_nm2]; rfl]
        refine v_istore (L' := [(10, _), (9, _), (8, _), (0, _), (1, _), (2, _), (3, _), (4, _), (5, _), (7, _)]) dX13_gaps_47 (Nat.le_of_ble_eq_true rfl) rfl ?_
        refine v_sub (L' := [(10, _), (9, _), (8, _), (7, _), (5, _), (4, _), (3, _), (2, _), (1, _), (0, _)]) [0, 1, 2, 9, 8, 7, 6, 5, 4, 3] rfl ?_
        first
          | exact absurd (show tu = 0 from c_32) (show ¬ tu = 0 from c_6)
          | exact absurd (show tu = 0 from c_6) (show ¬ tu = 0 from c_32)
          | (have e9 : v = w := nI_inj4 _ (by omega) _ (by omega) (show nI v = nI w from c_19)
             have hh := l_gpO G z b nc np pl R hm p3 p4 sz ly vo mp X Y hb fs0 hq0 MY O MO o ho how d hd h60 h61 mc hmc h62 hMB ri kd l1 l2 x3 x4 x5 x6 RU h58 hen kk n pg cc LD LK v w fV fW hv hw hfV hfW near hne tu ((pg (if tu = 0 then v else w) : Nat) : Int) (if v = w then -1 else ((pg (if tu = 0 then w else v) : Nat) : Int)) hA hC E0 (n v) 0 h fs (Nat.zero_add _) hm9 hl hE fr (by rw [List.range_zero, List.flatMap_nil, List.append_nil]; exact T)
             have e8 : ((if v = w then -1 else ((pg (if tu = 0 then w else v) : Nat) : Int)) : Int) = -1 := if_pos e9
             have e7 : iN (if v = w then -1 else ((pg (if tu = 0 then w else v) : Nat) : Int)) = (-1 : Int32) := (congrArg iN e8).trans rfl
             rw [e7] at hh
             exact hh)
          | (have e9 : ¬ v = w := fun e9 => c_19 (congrArg nI e9)
             have hh := l_gpO G z b nc np pl R hm p3 p4 sz ly vo mp X Y hb fs0 hq0 MY O MO o ho how d hd h60 h61 mc hmc h62 hMB ri kd l1 l2 x3 x4 x5 x6 RU h58 hen kk n pg cc LD LK v w fV fW hv hw hfV hfW near hne tu ((pg (if tu = 0 then v else w) : Nat) : Int) (if v = w then -1 else ((pg (if tu = 0 then w else v) : Nat) : Int)) hA hC E0 (n v) 0 h fs (Nat.zero_add _) hm9 hl hE fr (by rw [List.range_zero, List.flatMap_nil, List.append_nil]; exact T)
             have e8 : ((if v = w then -1 else ((pg (if tu = 0 then w else v) : Nat) : Int)) : Int) = ((pg (if tu = 0 then w else v) : Nat) : Int) := if_neg e9
             have e7 : iN (if v = w then -1 else ((pg (if tu = 0 then w else v) : Nat) : Int)) = nI (pg (if tu = 0 then w else v)) := congrArg iN e8
             rw [e7] at hh
             exact hh)
      · refine v_iload_n dX13_gaps_35 rfl 2 rfl ?_
        refine v_goto (tgt := 40) dX13_gaps_36 (by decide) ?_
        refine v_ialdS (v := nI (pg (if tu = 0 then w else v))) dX13_gaps_40 (by first | with_reducible assumption) (vp_in_nI (by omega) (by omega)) (by first | (rw [nI_clamp (by omega), if_pos (show tu = 0 from c_32)]; exact sw2) | (rw [nI_clamp (by omega), if_neg (show ¬ tu = 0 from c_32)]; exact sv2)) ?_
        refine v_istore (L' := [(9, _), (8, _), (0, _), (1, _), (2, _), (3, _), (4, _), (5, _), (7, _)]) dX13_gaps_41 (Nat.le_of_ble_eq_true rfl) rfl ?_
        refine v_bipush (v := 16) dX13_gaps_43 (by decide) ?_
        refine v_iload_n dX13_gaps_45 rfl 3 rfl ?_
        refine v_imul dX13_gaps_46 ?_
        rw [show 16 * nI v = nI (16 * v + 0) from by rw [show (16 : Int32) = nI 16 from rfl, sv_nm2]; rfl]
        refine v_istore (L' := [(10, _), (9, _), (8, _), (0, _), (1, _), (2, _), (3, _), (4, _), (5, _), (7, _)]) dX13_gaps_47 (Nat.le_of_ble_eq_true rfl) rfl ?_
        refine v_sub (L' := [(10, _), (9, _), (8, _), (7, _), (5, _), (4, _), (3, _), (2, _), (1, _), (0, _)]) [0, 1, 2, 9, 8, 7, 6, 5, 4, 3] rfl ?_
        first
          | exact absurd (show tu = 0 from c_32) (show ¬ tu = 0 from c_6)
          | exact absurd (show tu = 0 from c_6) (show ¬ tu = 0 from c_32)
          | (have e9 : v = w := nI_inj4 _ (by omega) _ (by omega) (show nI v = nI w from c_19)
             have hh := l_gpO G z b nc np pl R hm p3 p4 sz ly vo mp X Y hb fs0 hq0 MY O MO o ho how d hd h60 h61 mc hmc h62 hMB ri kd l1 l2 x3 x4 x5 x6 RU h58 hen kk n pg cc LD LK v w fV fW hv hw hfV hfW near hne tu ((pg (if tu = 0 then v else w) : Nat) : Int) (if v = w then -1 else ((pg (if tu = 0 then w else v) : Nat) : Int)) hA hC E0 (n v) 0 h fs (Nat.zero_add _) hm9 hl hE fr (by rw [List.range_zero, List.flatMap_nil, List.append_nil]; exact T)
             have e8 : ((if v = w then -1 else ((pg (if tu = 0 then w else v) : Nat) : Int)) : Int) = -1 := if_pos e9
             have e7 : iN (if v = w then -1 else ((pg (if tu = 0 then w else v) : Nat) : Int)) = (-1 : Int32) := (congrArg iN e8).trans rfl
             rw [e7] at hh
             exact hh)
          | (have e9 : ¬ v = w := fun e9 => c_19 (congrArg nI e9)
             have hh := l_gpO G z b nc np pl R hm p3 p4 sz ly vo mp X Y hb fs0 hq0 MY O MO o ho how d hd h60 h61 mc hmc h62 hMB ri kd l1 l2 x3 x4 x5 x6 RU h58 hen kk n pg cc LD LK v w fV fW hv hw hfV hfW near hne tu ((pg (if tu = 0 then v else w) : Nat) : Int) (if v = w then -1 else ((pg (if tu = 0 then w else v) : Nat) : Int)) hA hC E0 (n v) 0 h fs (Nat.zero_add _) hm9 hl hE fr (by rw [List.range_zero, List.flatMap_nil, List.append_nil]; exact T)
             have e8 : ((if v = w then -1 else ((pg (if tu = 0 then w else v) : Nat) : Int)) : Int) = ((pg (if tu = 0 then w else v) : Nat) : Int) := if_neg e9
             have e7 : iN (if v = w then -1 else ((pg (if tu = 0 then w else v) : Nat) : Int)) = nI (pg (if tu = 0 then w else v)) := congrArg iN e8
             rw [e7] at hh
             exact hh)
    · refine v_iconst (v := (-1)) dX13_gaps_22 (by decide) ?_
      refine v_goto (tgt := 41) dX13_gaps_23 (by decide) ?_
      refine v_istore (L' := [(9, _), (8, _), (0, _), (1, _), (2, _), (3, _), (4, _), (5, _), (7, _)]) dX13_gaps_41 (Nat.le_of_ble_eq_true rfl) rfl ?_
      refine v_bipush (v := 16) dX13_gaps_43 (by decide) ?_
      refine v_iload_n dX13_gaps_45 rfl 3 rfl ?_
      refine v_imul dX13_gaps_46 ?_
      rw [show 16 * nI v = nI (16 * v + 0) from by rw [show (16 : Int32) = nI 16 from rfl, sv_nm2]; rfl]
      refine v_istore (L' := [(10, _), (9, _), (8, _), (0, _), (1, _), (2, _), (3, _), (4, _), (5, _), (7, _)]) dX13_gaps_47 (Nat.le_of_ble_eq_true rfl) rfl ?_
      refine v_sub (L' := [(10, _), (9, _), (8, _), (7, _), (5, _), (4, _), (3, _), (2, _), (1, _), (0, _)]) [0, 1, 2, 9, 8, 7, 6, 5, 4, 3] rfl ?_
      first
        | exact absurd (show tu = 0 from c_32) (show ¬ tu = 0 from c_6)
        | exact absurd (show tu = 0 from c_6) (show ¬ tu = 0 from c_32)
        | (have e9 : v = w := nI_inj4 _ (by omega) _ (by omega) (show nI v = nI w from c_19)
           have hh := l_gpO G z b nc np pl R hm p3 p4 sz ly vo mp X Y hb fs0 hq0 MY O MO o ho how d hd h60 h61 mc hmc h62 hMB ri kd l1 l2 x3 x4 x5 x6 RU h58 hen kk n pg cc LD LK v w fV fW hv hw hfV hfW near hne tu ((pg (if tu = 0 then v else w) : Nat) : Int) (if v = w then -1 else ((pg (if tu = 0 then w else v) : Nat) : Int)) hA hC E0 (n v) 0 h fs (Nat.zero_add _) hm9 hl hE fr (by rw [List.range_zero, List.flatMap_nil, List.append_nil]; exact T)
           have e8 : ((if v = w then -1 else ((pg (if tu = 0 then w else v) : Nat) : Int)) : Int) = -1 := if_pos e9
           have e7 : iN (if v = w then -1 else ((pg (if tu = 0 then w else v) : Nat) : Int)) = (-1 : Int32) := (congrArg iN e8).trans rfl
           rw [e7] at hh
           exact hh)
        | (have e9 : ¬ v = w := fun e9 => c_19 (congrArg nI e9)
           have hh := l_gpO G z b nc np pl R hm p3 p4 sz ly vo mp X Y hb fs0 hq0 MY O MO o ho how d hd h60 h61 mc hmc h62 hMB ri kd l1 l2 x3 x4 x5 x6 RU h58 hen kk n pg cc LD LK v w fV fW hv hw hfV hfW near hne tu ((pg (if tu = 0 then v else w) : Nat) : Int) (if v = w then -1 else ((pg (if tu = 0 then w else v) : Nat) : Int)) hA hC E0 (n v) 0 h fs (Nat.zero_add _) hm9 hl hE fr (by rw [List.range_zero, List.flatMap_nil, List.append_nil]; exact T)
           have e8 : ((if v = w then -1 else ((pg (if tu = 0 then w else v) : Nat) : Int)) : Int) = ((pg (if tu = 0 then w else v) : Nat) : Int) := if_neg e9
           have e7 : iN (if v = w then -1 else ((pg (if tu = 0 then w else v) : Nat) : Int)) = nI (pg (if tu = 0 then w else v)) := congrArg iN e8
           rw [e7] at hh
           exact hh)
  · refine v_iload_n dX13_gaps_9 rfl 3 rfl ?_
    refine v_goto (tgt := 14) dX13_gaps_10 (by decide) ?_
    refine v_ialdS (v := nI (pg (if tu = 0 then v else w))) dX13_gaps_14 (by first | with_reducible assumption) (vp_in_nI (by omega) (by omega)) (by first | (rw [nI_clamp (by omega), if_pos (show tu = 0 from c_6)]; exact sv2) | (rw [nI_clamp (by omega), if_neg (show ¬ tu = 0 from c_6)]; exact sw2)) ?_
    refine v_istore (L' := [(8, _), (0, _), (1, _), (2, _), (3, _), (4, _), (5, _), (7, _)]) dX13_gaps_15 (Nat.le_of_ble_eq_true rfl) rfl ?_
    refine v_iload_n dX13_gaps_17 rfl 2 rfl ?_
    refine v_iload_n dX13_gaps_18 rfl 4 rfl ?_
    refine v_icmp_ne (tgt := 26) dX13_gaps_19 (by decide) (fun c_19 => ?_) (fun c_19 => ?_)
    · refine v_aload_n dX13_gaps_26 rfl 1 rfl ?_
      refine v_getf 51 (ci := 11) (C := RX13) (T := TX13) (N := 71) rfl iwX13_gaps_X13 (Nat.le_of_ble_eq_true rfl) (by decide +kernel) dX13_gaps_27 (by first | with_reducible assumption) (by repeat (first | with_reducible assumption | (with_reducible refine (sv_ls (by first | omega | (simp only [List.length_set]; omega))).trans ?_; exact rfl) | with_reducible refine (List.getElem?_set_ne (by decide)).trans ?_)) ?_
      refine v_iload dX13_gaps_30 7 rfl ?_
      refine v_if_eq (tgt := 39) dX13_gaps_32 (by decide) (fun c_32 => ?_) (fun c_32 => ?_)
      · refine v_iload_n dX13_gaps_39 rfl 4 rfl ?_
        refine v_ialdS (v := nI (pg (if tu = 0 then w else v))) dX13_gaps_40 (by first | with_reducible assumption) (vp_in_nI (by omega) (by omega)) (by first | (rw [nI_clamp (by omega), if_pos (show tu = 0 from c_32)]; exact sw2) | (rw [nI_clamp (by omega), if_neg (show ¬ tu = 0 from c_32)]; exact sv2)) ?_
        refine v_istore (L' := [(9, _), (8, _), (0, _), (1, _), (2, _), (3, _), (4, _), (5, _), (7, _)]) dX13_gaps_41 (Nat.le_of_ble_eq_true rfl) rfl ?_
        refine v_bipush (v := 16) dX13_gaps_43 (by decide) ?_
        refine v_iload_n dX13_gaps_45 rfl 3 rfl ?_
        refine v_imul dX13_gaps_46 ?_
        rw [show 16 * nI v = nI (16 * v + 0) from by rw [show (16 : Int32) = nI 16 from rfl, sv_nm2]; rfl]
        refine v_istore (L' := [(10, _), (9, _), (8, _), (0, _), (1, _), (2, _), (3, _), (4, _), (5, _), (7, _)]) dX13_gaps_47 (Nat.le_of_ble_eq_true rfl) rfl ?_
        refine v_sub (L' := [(10, _), (9, _), (8, _), (7, _), (5, _), (4, _), (3, _), (2, _), (1, _), (0, _)]) [0, 1, 2, 9, 8, 7, 6, 5, 4, 3] rfl ?_
        first
          | exact absurd (show tu = 0 from c_32) (show ¬ tu = 0 from c_6)
          | exact absurd (show tu = 0 from c_6) (show ¬ tu = 0 from c_32)
          | (have e9 : v = w := nI_inj4 _ (by omega) _ (by omega) (show nI v = nI w from c_19)
             have hh := l_gpO G z b nc np pl R hm p3 p4 sz ly vo mp X Y hb fs0 hq0 MY O MO o ho how d hd h60 h61 mc hmc h62 hMB ri kd l1 l2 x3 x4 x5 x6 RU h58 hen kk n pg cc LD LK v w fV fW hv hw hfV hfW near hne tu ((pg (if tu = 0 then v else w) : Nat) : Int) (if v = w then -1 else ((pg (if tu = 0 then w else v) : Nat) : Int)) hA hC E0 (n v) 0 h fs (Nat.zero_add _) hm9 hl hE fr (by rw [List.range_zero, List.flatMap_nil, List.append_nil]; exact T)
             have e8 : ((if v = w then -1 else ((pg (if tu = 0 then w else v) : Nat) : Int)) : Int) = -1 := if_pos e9
             have e7 : iN (if v = w then -1 else ((pg (if tu = 0 then w else v) : Nat) : Int)) = (-1 : Int32) := (congrArg iN e8).trans rfl
             rw [e7] at hh
             exact hh)
          | (have e9 : ¬ v = w := fun e9 => c_19 (congrArg nI e9)
             have hh := l_gpO G z b nc np pl R hm p3 p4 sz ly vo mp X Y hb fs0 hq0 MY O MO o ho how d hd h60 h61 mc hmc h62 hMB ri kd l1 l2 x3 x4 x5 x6 RU h58 hen kk n pg cc LD LK v w fV fW hv hw hfV hfW near hne tu ((pg (if tu = 0 then v else w) : Nat) : Int) (if v = w then -1 else ((pg (if tu = 0 then w else v) : Nat) : Int)) hA hC E0 (n v) 0 h fs (Nat.zero_add _) hm9 hl hE fr (by rw [List.range_zero, List.flatMap_nil, List.append_nil]; exact T)
             have e8 : ((if v = w then -1 else ((pg (if tu = 0 then w else v) : Nat) : Int)) : Int) = ((pg (if tu = 0 then w else v) : Nat) : Int) := if_neg e9
             have e7 : iN (if v = w then -1 else ((pg (if tu = 0 then w else v) : Nat) : Int)) = nI (pg (if tu = 0 then w else v)) := congrArg iN e8
             rw [e7] at hh
             exact hh)
      · refine v_iload_n dX13_gaps_35 rfl 2 rfl ?_
        refine v_goto (tgt := 40) dX13_gaps_36 (by decide) ?_
        refine v_ialdS (v := nI (pg (if tu = 0 then w else v))) dX13_gaps_40 (by first | with_reducible assumption) (vp_in_nI (by omega) (by omega)) (by first | (rw [nI_clamp (by omega), if_pos (show tu = 0 from c_32)]; exact sw2) | (rw [nI_clamp (by omega), if_neg (show ¬ tu = 0 from c_32)]; exact sv2)) ?_
        refine v_istore (L' := [(9, _), (8, _), (0, _), (1, _), (2, _), (3, _), (4, _), (5, _), (7, _)]) dX13_gaps_41 (Nat.le_of_ble_eq_true rfl) rfl ?_
        refine v_bipush (v := 16) dX13_gaps_43 (by decide) ?_
        refine v_iload_n dX13_gaps_45 rfl 3 rfl ?_
        refine v_imul dX13_gaps_46 ?_
        rw [show 16 * nI v = nI (16 * v + 0) from by rw [show (16 : Int32) = nI 16 from rfl, sv_nm2]; rfl]
        refine v_istore (L' := [(10, _), (9, _), (8, _), (0, _), (1, _), (2, _), (3, _), (4, _), (5, _), (7, _)]) dX13_gaps_47 (Nat.le_of_ble_eq_true rfl) rfl ?_
        refine v_sub (L' := [(10, _), (9, _), (8, _), (7, _), (5, _), (4, _), (3, _), (2, _), (1, _), (0, _)]) [0, 1, 2, 9, 8, 7, 6, 5, 4, 3] rfl ?_
        first
          | exact absurd (show tu = 0 from c_32) (show ¬ tu = 0 from c_6)
          | exact absurd (show tu = 0 from c_6) (show ¬ tu = 0 from c_32)
          | (have e9 : v = w := nI_inj4 _ (by omega) _ (by omega) (show nI v = nI w from c_19)
             have hh := l_gpO G z b nc np pl R hm p3 p4 sz ly vo mp X Y hb fs0 hq0 MY O MO o ho how d hd h60 h61 mc hmc h62 hMB ri kd l1 l2 x3 x4 x5 x6 RU h58 hen kk n pg cc LD LK v w fV fW hv hw hfV hfW near hne tu ((pg (if tu = 0 then v else w) : Nat) : Int) (if v = w then -1 else ((pg (if tu = 0 then w else v) : Nat) : Int)) hA hC E0 (n v) 0 h fs (Nat.zero_add _) hm9 hl hE fr (by rw [List.range_zero, List.flatMap_nil, List.append_nil]; exact T)
             have e8 : ((if v = w then -1 else ((pg (if tu = 0 then w else v) : Nat) : Int)) : Int) = -1 := if_pos e9
             have e7 : iN (if v = w then -1 else ((pg (if tu = 0 then w else v) : Nat) : Int)) = (-1 : Int32) := (congrArg iN e8).trans rfl
             rw [e7] at hh
             exact hh)
          | (have e9 : ¬ v = w := fun e9 => c_19 (congrArg nI e9)
             have hh := l_gpO G z b nc np pl R hm p3 p4 sz ly vo mp X Y hb fs0 hq0 MY O MO o ho how d hd h60 h61 mc hmc h62 hMB ri kd l1 l2 x3 x4 x5 x6 RU h58 hen kk n pg cc LD LK v w fV fW hv hw hfV hfW near hne tu ((pg (if tu = 0 then v else w) : Nat) : Int) (if v = w then -1 else ((pg (if tu = 0 then w else v) : Nat) : Int)) hA hC E0 (n v) 0 h fs (Nat.zero_add _) hm9 hl hE fr (by rw [List.range_zero, List.flatMap_nil, List.append_nil]; exact T)
             have e8 : ((if v = w then -1 else ((pg (if tu = 0 then w else v) : Nat) : Int)) : Int) = ((pg (if tu = 0 then w else v) : Nat) : Int) := if_neg e9
             have e7 : iN (if v = w then -1 else ((pg (if tu = 0 then w else v) : Nat) : Int)) = nI (pg (if tu = 0 then w else v)) := congrArg iN e8
             rw [e7] at hh
             exact hh)
    · refine v_iconst (v := (-1)) dX13_gaps_22 (by decide) ?_
      refine v_goto (tgt := 41) dX13_gaps_23 (by decide) ?_
      refine v_istore (L' := [(9, _), (8, _), (0, _), (1, _), (2, _), (3, _), (4, _), (5, _), (7, _)]) dX13_gaps_41 (Nat.le_of_ble_eq_true rfl) rfl ?_
      refine v_bipush (v := 16) dX13_gaps_43 (by decide) ?_
      refine v_iload_n dX13_gaps_45 rfl 3 rfl ?_
      refine v_imul dX13_gaps_46 ?_
      rw [show 16 * nI v = nI (16 * v + 0) from by rw [show (16 : Int32) = nI 16 from rfl, sv_nm2]; rfl]
      refine v_istore (L' := [(10, _), (9, _), (8, _), (0, _), (1, _), (2, _), (3, _), (4, _), (5, _), (7, _)]) dX13_gaps_47 (Nat.le_of_ble_eq_true rfl) rfl ?_
      refine v_sub (L' := [(10, _), (9, _), (8, _), (7, _), (5, _), (4, _), (3, _), (2, _), (1, _), (0, _)]) [0, 1, 2, 9, 8, 7, 6, 5, 4, 3] rfl ?_
      first
        | exact absurd (show tu = 0 from c_32) (show ¬ tu = 0 from c_6)
        | exact absurd (show tu = 0 from c_6) (show ¬ tu = 0 from c_32)
        | (have e9 : v = w := nI_inj4 _ (by omega) _ (by omega) (show nI v = nI w from c_19)
           have hh := l_gpO G z b nc np pl R hm p3 p4 sz ly vo mp X Y hb fs0 hq0 MY O MO o ho how d hd h60 h61 mc hmc h62 hMB ri kd l1 l2 x3 x4 x5 x6 RU h58 hen kk n pg cc LD LK v w fV fW hv hw hfV hfW near hne tu ((pg (if tu = 0 then v else w) : Nat) : Int) (if v = w then -1 else ((pg (if tu = 0 then w else v) : Nat) : Int)) hA hC E0 (n v) 0 h fs (Nat.zero_add _) hm9 hl hE fr (by rw [List.range_zero, List.flatMap_nil, List.append_nil]; exact T)
           have e8 : ((if v = w then -1 else ((pg (if tu = 0 then w else v) : Nat) : Int)) : Int) = -1 := if_pos e9
           have e7 : iN (if v = w then -1 else ((pg (if tu = 0 then w else v) : Nat) : Int)) = (-1 : Int32) := (congrArg iN e8).trans rfl
           rw [e7] at hh
           exact hh)
        | (have e9 : ¬ v = w := fun e9 => c_19 (congrArg nI e9)
           have hh := l_gpO G z b nc np pl R hm p3 p4 sz ly vo mp X Y hb fs0 hq0 MY O MO o ho how d hd h60 h61 mc hmc h62 hMB ri kd l1 l2 x3 x4 x5 x6 RU h58 hen kk n pg cc LD LK v w fV fW hv hw hfV hfW near hne tu ((pg (if tu = 0 then v else w) : Nat) : Int) (if v = w then -1 else ((pg (if tu = 0 then w else v) : Nat) : Int)) hA hC E0 (n v) 0 h fs (Nat.zero_add _) hm9 hl hE fr (by rw [List.range_zero, List.flatMap_nil, List.append_nil]; exact T)
           have e8 : ((if v = w then -1 else ((pg (if tu = 0 then w else v) : Nat) : Int)) : Int) = ((pg (if tu = 0 then w else v) : Nat) : Int) := if_neg e9
           have e7 : iN (if v = w then -1 else ((pg (if tu = 0 then w else v) : Nat) : Int)) = nI (pg (if tu = 0 then w else v)) := congrArg iN e8
           rw [e7] at hh
           exact hh)

end GU
