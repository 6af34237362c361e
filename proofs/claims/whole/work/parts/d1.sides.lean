theorem iwX13_findSides_X13 : ∀ w ∈ wsX130, w ∈ wsX13_findSides := by decide +kernel
set_option maxRecDepth 20000 in
theorem ggX13_findSides_X13_least : GoodIn wsX13_findSides wsX13_least := goodIn_r _ [12] (by decide +kernel) (by decide +kernel)
set_option maxRecDepth 20000 in
theorem ggX13_findSides_X13_most : GoodIn wsX13_findSides wsX13_most := goodIn_r _ [15] (by decide +kernel) (by decide +kernel)
theorem dX13_findSides_0 : decode cX13_findSides 0 = .ok (.lconst 0, 1) := by decide +kernel
theorem dX13_findSides_1 : decode cX13_findSides 1 = .ok (.lstore_n 2, 1) := by decide +kernel
theorem dX13_findSides_2 : decode cX13_findSides 2 = .ok (.iconst 0, 1) := by decide +kernel
theorem dX13_findSides_3 : decode cX13_findSides 3 = .ok (.istore 4, 2) := by decide +kernel
theorem dX13_findSides_5 : decode cX13_findSides 5 = .ok (.iload 4, 2) := by decide +kernel
theorem dX13_findSides_7 : decode cX13_findSides 7 = .ok (.aload_n 0, 1) := by decide +kernel
theorem dX13_findSides_8 : decode cX13_findSides 8 = .ok (.getfield 101, 3) := by decide +kernel
theorem dX13_findSides_11 : decode cX13_findSides 11 = .ok (.iload_n 1, 1) := by decide +kernel
theorem dX13_findSides_12 : decode cX13_findSides 12 = .ok (.iaload, 1) := by decide +kernel
theorem dX13_findSides_13 : decode cX13_findSides 13 = .ok (.if_icmp .ge 56, 3) := by decide +kernel
theorem dX13_findSides_16 : decode cX13_findSides 16 = .ok (.bipush 17, 2) := by decide +kernel
theorem dX13_findSides_18 : decode cX13_findSides 18 = .ok (.iload_n 1, 1) := by decide +kernel
theorem dX13_findSides_19 : decode cX13_findSides 19 = .ok (.imul, 1) := by decide +kernel
theorem dX13_findSides_20 : decode cX13_findSides 20 = .ok (.iload 4, 2) := by decide +kernel
theorem dX13_findSides_22 : decode cX13_findSides 22 = .ok (.iadd, 1) := by decide +kernel
theorem dX13_findSides_23 : decode cX13_findSides 23 = .ok (.istore 5, 2) := by decide +kernel
theorem dX13_findSides_25 : decode cX13_findSides 25 = .ok (.lload_n 2, 1) := by decide +kernel
theorem dX13_findSides_26 : decode cX13_findSides 26 = .ok (.aload_n 0, 1) := by decide +kernel
theorem dX13_findSides_27 : decode cX13_findSides 27 = .ok (.getfield 104, 3) := by decide +kernel
theorem dX13_findSides_30 : decode cX13_findSides 30 = .ok (.iload 5, 2) := by decide +kernel
theorem dX13_findSides_32 : decode cX13_findSides 32 = .ok (.laload, 1) := by decide +kernel
theorem dX13_findSides_33 : decode cX13_findSides 33 = .ok (.aload_n 0, 1) := by decide +kernel
theorem dX13_findSides_34 : decode cX13_findSides 34 = .ok (.getfield 107, 3) := by decide +kernel
theorem dX13_findSides_37 : decode cX13_findSides 37 = .ok (.iload 5, 2) := by decide +kernel
theorem dX13_findSides_39 : decode cX13_findSides 39 = .ok (.iconst 1, 1) := by decide +kernel
theorem dX13_findSides_40 : decode cX13_findSides 40 = .ok (.iadd, 1) := by decide +kernel
theorem dX13_findSides_41 : decode cX13_findSides 41 = .ok (.laload, 1) := by decide +kernel
theorem dX13_findSides_42 : decode cX13_findSides 42 = .ok (.lmul, 1) := by decide +kernel
theorem dX13_findSides_43 : decode cX13_findSides 43 = .ok (.aload_n 0, 1) := by decide +kernel
theorem dX13_findSides_44 : decode cX13_findSides 44 = .ok (.getfield 104, 3) := by decide +kernel
theorem dX13_findSides_47 : decode cX13_findSides 47 = .ok (.iload 5, 2) := by decide +kernel
theorem dX13_findSides_49 : decode cX13_findSides 49 = .ok (.iconst 1, 1) := by decide +kernel
theorem dX13_findSides_50 : decode cX13_findSides 50 = .ok (.iadd, 1) := by decide +kernel
theorem dX13_findSides_51 : decode cX13_findSides 51 = .ok (.laload, 1) := by decide +kernel
theorem dX13_findSides_52 : decode cX13_findSides 52 = .ok (.aload_n 0, 1) := by decide +kernel
theorem dX13_findSides_53 : decode cX13_findSides 53 = .ok (.getfield 107, 3) := by decide +kernel
theorem dX13_findSides_56 : decode cX13_findSides 56 = .ok (.iload 5, 2) := by decide +kernel
theorem dX13_findSides_58 : decode cX13_findSides 58 = .ok (.laload, 1) := by decide +kernel
theorem dX13_findSides_59 : decode cX13_findSides 59 = .ok (.lmul, 1) := by decide +kernel
theorem dX13_findSides_60 : decode cX13_findSides 60 = .ok (.lsub, 1) := by decide +kernel
theorem dX13_findSides_61 : decode cX13_findSides 61 = .ok (.ladd, 1) := by decide +kernel
theorem dX13_findSides_62 : decode cX13_findSides 62 = .ok (.lstore_n 2, 1) := by decide +kernel
theorem dX13_findSides_63 : decode cX13_findSides 63 = .ok (.iinc 4 1, 3) := by decide +kernel
theorem dX13_findSides_66 : decode cX13_findSides 66 = .ok (.goto (-61), 3) := by decide +kernel
theorem dX13_findSides_69 : decode cX13_findSides 69 = .ok (.aload_n 0, 1) := by decide +kernel
theorem dX13_findSides_70 : decode cX13_findSides 70 = .ok (.getfield 110, 3) := by decide +kernel
theorem dX13_findSides_73 : decode cX13_findSides 73 = .ok (.iload_n 1, 1) := by decide +kernel
theorem dX13_findSides_74 : decode cX13_findSides 74 = .ok (.lload_n 2, 1) := by decide +kernel
theorem dX13_findSides_75 : decode cX13_findSides 75 = .ok (.lconst 0, 1) := by decide +kernel
theorem dX13_findSides_76 : decode cX13_findSides 76 = .ok (.lcmp, 1) := by decide +kernel
theorem dX13_findSides_77 : decode cX13_findSides 77 = .ok (.ifCond .le 7, 3) := by decide +kernel
theorem dX13_findSides_80 : decode cX13_findSides 80 = .ok (.iconst 1, 1) := by decide +kernel
theorem dX13_findSides_81 : decode cX13_findSides 81 = .ok (.goto 4, 3) := by decide +kernel
theorem dX13_findSides_84 : decode cX13_findSides 84 = .ok (.iconst 0, 1) := by decide +kernel
theorem dX13_findSides_85 : decode cX13_findSides 85 = .ok (.bastore, 1) := by decide +kernel
theorem dX13_findSides_86 : decode cX13_findSides 86 = .ok (.iconst 0, 1) := by decide +kernel
theorem dX13_findSides_87 : decode cX13_findSides 87 = .ok (.istore 4, 2) := by decide +kernel
theorem dX13_findSides_89 : decode cX13_findSides 89 = .ok (.iload 4, 2) := by decide +kernel
theorem dX13_findSides_91 : decode cX13_findSides 91 = .ok (.aload_n 0, 1) := by decide +kernel
theorem dX13_findSides_92 : decode cX13_findSides 92 = .ok (.getfield 101, 3) := by decide +kernel
theorem dX13_findSides_95 : decode cX13_findSides 95 = .ok (.iload_n 1, 1) := by decide +kernel
theorem dX13_findSides_96 : decode cX13_findSides 96 = .ok (.iaload, 1) := by decide +kernel
theorem dX13_findSides_97 : decode cX13_findSides 97 = .ok (.if_icmp .ge 273, 3) := by decide +kernel
theorem dX13_findSides_100 : decode cX13_findSides 100 = .ok (.bipush 17, 2) := by decide +kernel
theorem dX13_findSides_102 : decode cX13_findSides 102 = .ok (.iload_n 1, 1) := by decide +kernel
theorem dX13_findSides_103 : decode cX13_findSides 103 = .ok (.imul, 1) := by decide +kernel
theorem dX13_findSides_104 : decode cX13_findSides 104 = .ok (.iload 4, 2) := by decide +kernel
theorem dX13_findSides_106 : decode cX13_findSides 106 = .ok (.iadd, 1) := by decide +kernel
theorem dX13_findSides_107 : decode cX13_findSides 107 = .ok (.istore 5, 2) := by decide +kernel
theorem dX13_findSides_109 : decode cX13_findSides 109 = .ok (.bipush 16, 2) := by decide +kernel
theorem dX13_findSides_111 : decode cX13_findSides 111 = .ok (.iload_n 1, 1) := by decide +kernel
theorem dX13_findSides_112 : decode cX13_findSides 112 = .ok (.imul, 1) := by decide +kernel
theorem dX13_findSides_113 : decode cX13_findSides 113 = .ok (.iload 4, 2) := by decide +kernel
theorem dX13_findSides_115 : decode cX13_findSides 115 = .ok (.iadd, 1) := by decide +kernel
theorem dX13_findSides_116 : decode cX13_findSides 116 = .ok (.istore 6, 2) := by decide +kernel
theorem dX13_findSides_118 : decode cX13_findSides 118 = .ok (.aload_n 0, 1) := by decide +kernel
theorem dX13_findSides_119 : decode cX13_findSides 119 = .ok (.getfield 104, 3) := by decide +kernel
theorem dX13_findSides_122 : decode cX13_findSides 122 = .ok (.iload 5, 2) := by decide +kernel
theorem dX13_findSides_124 : decode cX13_findSides 124 = .ok (.laload, 1) := by decide +kernel
theorem dX13_findSides_125 : decode cX13_findSides 125 = .ok (.aload_n 0, 1) := by decide +kernel
theorem dX13_findSides_126 : decode cX13_findSides 126 = .ok (.getfield 104, 3) := by decide +kernel
theorem dX13_findSides_129 : decode cX13_findSides 129 = .ok (.iload 5, 2) := by decide +kernel
theorem dX13_findSides_131 : decode cX13_findSides 131 = .ok (.iconst 1, 1) := by decide +kernel
theorem dX13_findSides_132 : decode cX13_findSides 132 = .ok (.iadd, 1) := by decide +kernel
theorem dX13_findSides_133 : decode cX13_findSides 133 = .ok (.laload, 1) := by decide +kernel
theorem dX13_findSides_134 : decode cX13_findSides 134 = .ok (.lcmp, 1) := by decide +kernel
theorem dX13_findSides_135 : decode cX13_findSides 135 = .ok (.ifCond .ne 7, 3) := by decide +kernel
theorem dX13_findSides_138 : decode cX13_findSides 138 = .ok (.iconst 1, 1) := by decide +kernel
theorem dX13_findSides_139 : decode cX13_findSides 139 = .ok (.goto 4, 3) := by decide +kernel
theorem dX13_findSides_142 : decode cX13_findSides 142 = .ok (.iconst 0, 1) := by decide +kernel
theorem dX13_findSides_143 : decode cX13_findSides 143 = .ok (.istore 7, 2) := by decide +kernel
theorem dX13_findSides_145 : decode cX13_findSides 145 = .ok (.iload 7, 2) := by decide +kernel
theorem dX13_findSides_147 : decode cX13_findSides 147 = .ok (.ifCond .eq 31, 3) := by decide +kernel
theorem dX13_findSides_150 : decode cX13_findSides 150 = .ok (.aload_n 0, 1) := by decide +kernel
theorem dX13_findSides_151 : decode cX13_findSides 151 = .ok (.getfield 107, 3) := by decide +kernel
theorem dX13_findSides_154 : decode cX13_findSides 154 = .ok (.iload 5, 2) := by decide +kernel
theorem dX13_findSides_156 : decode cX13_findSides 156 = .ok (.iconst 1, 1) := by decide +kernel
theorem dX13_findSides_157 : decode cX13_findSides 157 = .ok (.iadd, 1) := by decide +kernel
theorem dX13_findSides_158 : decode cX13_findSides 158 = .ok (.laload, 1) := by decide +kernel
theorem dX13_findSides_159 : decode cX13_findSides 159 = .ok (.aload_n 0, 1) := by decide +kernel
theorem dX13_findSides_160 : decode cX13_findSides 160 = .ok (.getfield 107, 3) := by decide +kernel
theorem dX13_findSides_163 : decode cX13_findSides 163 = .ok (.iload 5, 2) := by decide +kernel
theorem dX13_findSides_165 : decode cX13_findSides 165 = .ok (.laload, 1) := by decide +kernel
theorem dX13_findSides_166 : decode cX13_findSides 166 = .ok (.lcmp, 1) := by decide +kernel
theorem dX13_findSides_167 : decode cX13_findSides 167 = .ok (.ifCond .le 7, 3) := by decide +kernel
theorem dX13_findSides_170 : decode cX13_findSides 170 = .ok (.iconst 0, 1) := by decide +kernel
theorem dX13_findSides_171 : decode cX13_findSides 171 = .ok (.goto 32, 3) := by decide +kernel
theorem dX13_findSides_174 : decode cX13_findSides 174 = .ok (.iconst 2, 1) := by decide +kernel
theorem dX13_findSides_175 : decode cX13_findSides 175 = .ok (.goto 28, 3) := by decide +kernel
theorem dX13_findSides_178 : decode cX13_findSides 178 = .ok (.aload_n 0, 1) := by decide +kernel
theorem dX13_findSides_179 : decode cX13_findSides 179 = .ok (.getfield 104, 3) := by decide +kernel
theorem dX13_findSides_182 : decode cX13_findSides 182 = .ok (.iload 5, 2) := by decide +kernel
theorem dX13_findSides_184 : decode cX13_findSides 184 = .ok (.iconst 1, 1) := by decide +kernel
theorem dX13_findSides_185 : decode cX13_findSides 185 = .ok (.iadd, 1) := by decide +kernel
theorem dX13_findSides_186 : decode cX13_findSides 186 = .ok (.laload, 1) := by decide +kernel
theorem dX13_findSides_187 : decode cX13_findSides 187 = .ok (.aload_n 0, 1) := by decide +kernel
theorem dX13_findSides_188 : decode cX13_findSides 188 = .ok (.getfield 104, 3) := by decide +kernel
theorem dX13_findSides_191 : decode cX13_findSides 191 = .ok (.iload 5, 2) := by decide +kernel
theorem dX13_findSides_193 : decode cX13_findSides 193 = .ok (.laload, 1) := by decide +kernel
theorem dX13_findSides_194 : decode cX13_findSides 194 = .ok (.lcmp, 1) := by decide +kernel
theorem dX13_findSides_195 : decode cX13_findSides 195 = .ok (.ifCond .le 7, 3) := by decide +kernel
theorem dX13_findSides_198 : decode cX13_findSides 198 = .ok (.iconst 3, 1) := by decide +kernel
theorem dX13_findSides_199 : decode cX13_findSides 199 = .ok (.goto 4, 3) := by decide +kernel
theorem dX13_findSides_202 : decode cX13_findSides 202 = .ok (.iconst 1, 1) := by decide +kernel
theorem dX13_findSides_203 : decode cX13_findSides 203 = .ok (.istore 8, 2) := by decide +kernel
theorem dX13_findSides_205 : decode cX13_findSides 205 = .ok (.aload_n 0, 1) := by decide +kernel
theorem dX13_findSides_206 : decode cX13_findSides 206 = .ok (.getfield 113, 3) := by decide +kernel
theorem dX13_findSides_209 : decode cX13_findSides 209 = .ok (.iload 6, 2) := by decide +kernel
theorem dX13_findSides_211 : decode cX13_findSides 211 = .ok (.lload_n 2, 1) := by decide +kernel
theorem dX13_findSides_212 : decode cX13_findSides 212 = .ok (.lconst 0, 1) := by decide +kernel
theorem dX13_findSides_213 : decode cX13_findSides 213 = .ok (.lcmp, 1) := by decide +kernel
theorem dX13_findSides_214 : decode cX13_findSides 214 = .ok (.ifCond .le 8, 3) := by decide +kernel
theorem dX13_findSides_217 : decode cX13_findSides 217 = .ok (.iload 8, 2) := by decide +kernel
theorem dX13_findSides_219 : decode cX13_findSides 219 = .ok (.goto 9, 3) := by decide +kernel
theorem dX13_findSides_222 : decode cX13_findSides 222 = .ok (.iload 8, 2) := by decide +kernel
theorem dX13_findSides_224 : decode cX13_findSides 224 = .ok (.iconst 2, 1) := by decide +kernel
theorem dX13_findSides_225 : decode cX13_findSides 225 = .ok (.iadd, 1) := by decide +kernel
theorem dX13_findSides_226 : decode cX13_findSides 226 = .ok (.iconst 4, 1) := by decide +kernel
theorem dX13_findSides_227 : decode cX13_findSides 227 = .ok (.irem, 1) := by decide +kernel
theorem dX13_findSides_228 : decode cX13_findSides 228 = .ok (.iastore, 1) := by decide +kernel
theorem dX13_findSides_229 : decode cX13_findSides 229 = .ok (.aload_n 0, 1) := by decide +kernel
theorem dX13_findSides_230 : decode cX13_findSides 230 = .ok (.getfield 116, 3) := by decide +kernel
theorem dX13_findSides_233 : decode cX13_findSides 233 = .ok (.iload 6, 2) := by decide +kernel
theorem dX13_findSides_235 : decode cX13_findSides 235 = .ok (.iload 7, 2) := by decide +kernel
theorem dX13_findSides_237 : decode cX13_findSides 237 = .ok (.ifCond .eq 13, 3) := by decide +kernel
theorem dX13_findSides_240 : decode cX13_findSides 240 = .ok (.aload_n 0, 1) := by decide +kernel
theorem dX13_findSides_241 : decode cX13_findSides 241 = .ok (.getfield 104, 3) := by decide +kernel
theorem dX13_findSides_244 : decode cX13_findSides 244 = .ok (.iload 5, 2) := by decide +kernel
theorem dX13_findSides_246 : decode cX13_findSides 246 = .ok (.laload, 1) := by decide +kernel
theorem dX13_findSides_247 : decode cX13_findSides 247 = .ok (.goto 10, 3) := by decide +kernel
theorem dX13_findSides_250 : decode cX13_findSides 250 = .ok (.aload_n 0, 1) := by decide +kernel
theorem dX13_findSides_251 : decode cX13_findSides 251 = .ok (.getfield 107, 3) := by decide +kernel
theorem dX13_findSides_254 : decode cX13_findSides 254 = .ok (.iload 5, 2) := by decide +kernel
theorem dX13_findSides_256 : decode cX13_findSides 256 = .ok (.laload, 1) := by decide +kernel
theorem dX13_findSides_257 : decode cX13_findSides 257 = .ok (.lastore, 1) := by decide +kernel
theorem dX13_findSides_258 : decode cX13_findSides 258 = .ok (.aload_n 0, 1) := by decide +kernel
theorem dX13_findSides_259 : decode cX13_findSides 259 = .ok (.getfield 119, 3) := by decide +kernel
theorem dX13_findSides_262 : decode cX13_findSides 262 = .ok (.iload 6, 2) := by decide +kernel
theorem dX13_findSides_264 : decode cX13_findSides 264 = .ok (.iload 7, 2) := by decide +kernel
theorem dX13_findSides_266 : decode cX13_findSides 266 = .ok (.ifCond .eq 25, 3) := by decide +kernel
theorem dX13_findSides_269 : decode cX13_findSides 269 = .ok (.aload_n 0, 1) := by decide +kernel
theorem dX13_findSides_270 : decode cX13_findSides 270 = .ok (.getfield 107, 3) := by decide +kernel
theorem dX13_findSides_273 : decode cX13_findSides 273 = .ok (.iload 5, 2) := by decide +kernel
theorem dX13_findSides_275 : decode cX13_findSides 275 = .ok (.laload, 1) := by decide +kernel
theorem dX13_findSides_276 : decode cX13_findSides 276 = .ok (.aload_n 0, 1) := by decide +kernel
theorem dX13_findSides_277 : decode cX13_findSides 277 = .ok (.getfield 107, 3) := by decide +kernel
theorem dX13_findSides_280 : decode cX13_findSides 280 = .ok (.iload 5, 2) := by decide +kernel
theorem dX13_findSides_282 : decode cX13_findSides 282 = .ok (.iconst 1, 1) := by decide +kernel
theorem dX13_findSides_283 : decode cX13_findSides 283 = .ok (.iadd, 1) := by decide +kernel
theorem dX13_findSides_284 : decode cX13_findSides 284 = .ok (.laload, 1) := by decide +kernel
theorem dX13_findSides_285 : decode cX13_findSides 285 = .ok (.invokestatic 180, 3) := by decide +kernel
theorem dX13_findSides_288 : decode cX13_findSides 288 = .ok (.goto 22, 3) := by decide +kernel
theorem dX13_findSides_291 : decode cX13_findSides 291 = .ok (.aload_n 0, 1) := by decide +kernel
theorem dX13_findSides_292 : decode cX13_findSides 292 = .ok (.getfield 104, 3) := by decide +kernel
theorem dX13_findSides_295 : decode cX13_findSides 295 = .ok (.iload 5, 2) := by decide +kernel
theorem dX13_findSides_297 : decode cX13_findSides 297 = .ok (.laload, 1) := by decide +kernel
theorem dX13_findSides_298 : decode cX13_findSides 298 = .ok (.aload_n 0, 1) := by decide +kernel
theorem dX13_findSides_299 : decode cX13_findSides 299 = .ok (.getfield 104, 3) := by decide +kernel
theorem dX13_findSides_302 : decode cX13_findSides 302 = .ok (.iload 5, 2) := by decide +kernel
theorem dX13_findSides_304 : decode cX13_findSides 304 = .ok (.iconst 1, 1) := by decide +kernel
theorem dX13_findSides_305 : decode cX13_findSides 305 = .ok (.iadd, 1) := by decide +kernel
theorem dX13_findSides_306 : decode cX13_findSides 306 = .ok (.laload, 1) := by decide +kernel
theorem dX13_findSides_307 : decode cX13_findSides 307 = .ok (.invokestatic 180, 3) := by decide +kernel
theorem dX13_findSides_310 : decode cX13_findSides 310 = .ok (.lastore, 1) := by decide +kernel
theorem dX13_findSides_311 : decode cX13_findSides 311 = .ok (.aload_n 0, 1) := by decide +kernel
theorem dX13_findSides_312 : decode cX13_findSides 312 = .ok (.getfield 122, 3) := by decide +kernel
theorem dX13_findSides_315 : decode cX13_findSides 315 = .ok (.iload 6, 2) := by decide +kernel
theorem dX13_findSides_317 : decode cX13_findSides 317 = .ok (.iload 7, 2) := by decide +kernel
theorem dX13_findSides_319 : decode cX13_findSides 319 = .ok (.ifCond .eq 25, 3) := by decide +kernel
theorem dX13_findSides_322 : decode cX13_findSides 322 = .ok (.aload_n 0, 1) := by decide +kernel
theorem dX13_findSides_323 : decode cX13_findSides 323 = .ok (.getfield 107, 3) := by decide +kernel
theorem dX13_findSides_326 : decode cX13_findSides 326 = .ok (.iload 5, 2) := by decide +kernel
theorem dX13_findSides_328 : decode cX13_findSides 328 = .ok (.laload, 1) := by decide +kernel
theorem dX13_findSides_329 : decode cX13_findSides 329 = .ok (.aload_n 0, 1) := by decide +kernel
theorem dX13_findSides_330 : decode cX13_findSides 330 = .ok (.getfield 107, 3) := by decide +kernel
theorem dX13_findSides_333 : decode cX13_findSides 333 = .ok (.iload 5, 2) := by decide +kernel
theorem dX13_findSides_335 : decode cX13_findSides 335 = .ok (.iconst 1, 1) := by decide +kernel
theorem dX13_findSides_336 : decode cX13_findSides 336 = .ok (.iadd, 1) := by decide +kernel
theorem dX13_findSides_337 : decode cX13_findSides 337 = .ok (.laload, 1) := by decide +kernel
theorem dX13_findSides_338 : decode cX13_findSides 338 = .ok (.invokestatic 184, 3) := by decide +kernel
theorem dX13_findSides_341 : decode cX13_findSides 341 = .ok (.goto 22, 3) := by decide +kernel
theorem dX13_findSides_344 : decode cX13_findSides 344 = .ok (.aload_n 0, 1) := by decide +kernel
theorem dX13_findSides_345 : decode cX13_findSides 345 = .ok (.getfield 104, 3) := by decide +kernel
theorem dX13_findSides_348 : decode cX13_findSides 348 = .ok (.iload 5, 2) := by decide +kernel
theorem dX13_findSides_350 : decode cX13_findSides 350 = .ok (.laload, 1) := by decide +kernel
theorem dX13_findSides_351 : decode cX13_findSides 351 = .ok (.aload_n 0, 1) := by decide +kernel
theorem dX13_findSides_352 : decode cX13_findSides 352 = .ok (.getfield 104, 3) := by decide +kernel
theorem dX13_findSides_355 : decode cX13_findSides 355 = .ok (.iload 5, 2) := by decide +kernel
theorem dX13_findSides_357 : decode cX13_findSides 357 = .ok (.iconst 1, 1) := by decide +kernel
theorem dX13_findSides_358 : decode cX13_findSides 358 = .ok (.iadd, 1) := by decide +kernel
theorem dX13_findSides_359 : decode cX13_findSides 359 = .ok (.laload, 1) := by decide +kernel
theorem dX13_findSides_360 : decode cX13_findSides 360 = .ok (.invokestatic 184, 3) := by decide +kernel
theorem dX13_findSides_363 : decode cX13_findSides 363 = .ok (.lastore, 1) := by decide +kernel
theorem dX13_findSides_364 : decode cX13_findSides 364 = .ok (.iinc 4 1, 3) := by decide +kernel
theorem dX13_findSides_367 : decode cX13_findSides 367 = .ok (.goto (-278), 3) := by decide +kernel
theorem dX13_findSides_370 : decode cX13_findSides 370 = .ok (.return_, 1) := by decide +kernel

abbrev mX13_findSides : sv_M := (cX13_findSides, 9, yX13_findSides, wsX13_findSides, none, { frames := 2, cells := 0, slots := 0, locals := 60 }, [])
/-- twice the area, signed, of the first k sides -/
def twS (C : Nat → Int × Int) : Nat → Int | 0 => 0 | k + 1 => twS C k + ((C k).1 * (C (k + 1)).2 - (C (k + 1)).1 * (C k).2)
def toM (C : Nat → Int × Int) (k : Nat) : Nat := if (C k).1 = (C (k + 1)).1 then (if (C k).2 < (C (k + 1)).2 then 0 else 2) else (if (C k).1 < (C (k + 1)).1 then 3 else 1)
def fcM (s : Int) (C : Nat → Int × Int) (k : Nat) : Nat := if 0 < s then toM C k else (toM C k + 2) % 4
def itM (C : Nat → Int × Int) (k : Nat) : iT := if (C k).1 = (C (k + 1)).1 then ((C k).1, min (C k).2 (C (k + 1)).2, max (C k).2 (C (k + 1)).2) else ((C k).2, min (C k).1 (C (k + 1)).1, max (C k).1 (C (k + 1)).1)
theorem mul_b2 {a c : Int} (h1 : -200000 ≤ a ∧ a ≤ 200000) (h2 : -200000 ≤ c ∧ c ≤ 200000) : -40000000000 ≤ a * c ∧ a * c ≤ 40000000000 := by
  have e := Int.natAbs_mul a c
  have l := Nat.mul_le_mul (show a.natAbs ≤ 200000 by omega) (show c.natAbs ≤ 200000 by omega)
  omega
theorem twS_b {C : Nat → Int × Int} {n : Nat} (h : cbd C (n + 1)) : ∀ k, k ≤ n → -(80000000000 * (k : Int)) ≤ twS C k ∧ twS C k ≤ 80000000000 * (k : Int) := by
  intro k
  induction k with
  | zero => intro _; show -(80000000000 * ((0 : Nat) : Int)) ≤ 0 ∧ (0 : Int) ≤ _; omega
  | succ k ih =>
    intro hk
    have a := ih (by omega)
    have c := h k (by omega)
    have d := h (k + 1) (by omega)
    have m1 := mul_b2 c.1 d.2
    have m2 := mul_b2 d.1 c.2
    show _ ≤ twS C k + ((C k).1 * (C (k + 1)).2 - (C (k + 1)).1 * (C k).2) ∧ twS C k + ((C k).1 * (C (k + 1)).2 - (C (k + 1)).1 * (C k).2) ≤ _
    omega
theorem m_leastI (G : sv_G) (h : sv_h) (z : Nat) {x y : Int} (hx : -200000 ≤ x ∧ x ≤ 200000) (hy : -200000 ≤ y ∧ y ≤ 200000) : CT G mX13_least [.long (jN x), .long (jN y)] h z (fun v h1 z1 => v = some (.long (jN (min x y))) ∧ h1 = h ∧ z1 = z) := by
  have q := m_least G h z (iN x) (iN y)
  rw [gmI_min (by omega) (by omega), iN_64 (x := x) (by omega) (by omega), iN_64 (x := y) (by omega) (by omega), iN_64 (x := min x y) (by omega) (by omega)] at q
  exact q
theorem m_mostI (G : sv_G) (h : sv_h) (z : Nat) {x y : Int} (hx : -200000 ≤ x ∧ x ≤ 200000) (hy : -200000 ≤ y ∧ y ≤ 200000) : CT G mX13_most [.long (jN x), .long (jN y)] h z (fun v h1 z1 => v = some (.long (jN (max x y))) ∧ h1 = h ∧ z1 = z) := by
  have q := m_most G h z (iN x) (iN y)
  rw [gmI_max (by omega) (by omega), iN_64 (x := x) (by omega) (by omega), iN_64 (x := y) (by omega) (by omega), iN_64 (x := max x y) (by omega) (by omega)] at q
  exact q
theorem sv_17 (w k : Nat) : 17 * nI w + nI k = nI (17 * w + k) := by rw [show (17 : Int32) = nI 17 from rfl, sv_nm2, nI_add]
theorem sv_16a (w k : Nat) : 16 * nI w + nI k = nI (16 * w + k) := by rw [show (16 : Int32) = nI 16 from rfl, sv_nm2, nI_add]
theorem sv_170 (w : Nat) : 17 * nI w = nI (17 * w) := by rw [show (17 : Int32) = nI 17 from rfl, sv_nm2]
set_option maxHeartbeats 4000000 in
set_option maxRecDepth 100000 in
theorem l_fsS (G : sv_G) (Qr : Option Value → sv_h → Nat → Prop) (z b nc np pl : Nat) (hb : sv_h) (fs : List Value) (hq0 : mfq_ b nc np pl fs) (hm : hb (b + 220) = some (.inr (11, fs))) (w n : Nat) (hw : w < 2) (hn : n ≤ 16) (C : Nat → Int × Int) (hC : cbd C (n + 1)) (fsd : Nat → Int32) (h43 : ab_I G hb (b + 249) 2 fsd) (hsd : fsd w = nI n) (gx gy : Nat → Int64) (h44 : ab_J G hb (b + 250) 34 gx) (h45 : ab_J G hb (b + 251) 34 gy) (hgx : ∀ k, k ≤ n → gx (17 * w + k) = jN (C k).1) (hgy : ∀ k, k ≤ n → gy (17 * w + k) = jN (C k).2) (hk : V G mX13_findSides (sv_MQ G mX13_findSides Qr) 69 [(2, .long (jN (twS C n))), (1, .int (nI w)), (0, .ref (b + 220))] [] hb z 0 0) : ∀ (e k : Nat), k + e = n → V G mX13_findSides (sv_MQ G mX13_findSides Qr) 5 [(4, .int (nI k)), (2, .long (jN (twS C k))), (1, .int (nI w)), (0, .ref (b + 220))] [] hb z 0 0 := by
  intro e
  induction e with
  | zero =>
    intro k hke
    have hlen : fs.length = 71 := hq0.1
    have f_sides := hq0.f_sides
    have f_cx := hq0.f_cx
    have f_cy := hq0.f_cy
    have f_toTheLeft := hq0.f_toTheLeft
    have f_face := hq0.f_face
    have f_pos := hq0.f_pos
    have f_low := hq0.f_low
    have f_high := hq0.f_high
    have cb := hC
    have e9 : k = n := by omega
    refine v_iload dX13_findSides_5 0 rfl ?_
    refine v_aload_n dX13_findSides_7 rfl 3 rfl ?_
    refine v_getf 43 (ci := 11) (C := RX13) (T := TX13) (N := 71) rfl iwX13_findSides_X13 (Nat.le_of_ble_eq_true rfl) (by decide +kernel) dX13_findSides_8 (by first | with_reducible assumption) (by repeat (first | with_reducible assumption | (with_reducible refine (sv_ls (by first | omega | (simp only [List.length_set]; omega))).trans ?_; exact rfl) | with_reducible refine (List.getElem?_set_ne (by decide)).trans ?_)) ?_
    refine v_iload_n dX13_findSides_11 rfl 2 rfl ?_
    refine v_ialdS (v := nI n) dX13_findSides_12 (by first | with_reducible assumption) (vp_in_nI (by omega) (by omega)) (by rw [nI_clamp (by omega)]; exact hsd) ?_
    refine v_icmp_ge (tgt := 69) dX13_findSides_13 (by decide) (fun c_13 => ?_) (fun c_13 => ?_)
    · refine v_sub (L' := [(2, _), (1, _), (0, _)]) [1, 2, 3] rfl ?_
      rw [e9]
      exact hk
    · exact absurd (nI_le (show n ≤ k by omega) (by omega)) c_13
  | succ e ih =>
    intro k hke
    have hlen : fs.length = 71 := hq0.1
    have f_sides := hq0.f_sides
    have f_cx := hq0.f_cx
    have f_cy := hq0.f_cy
    have f_toTheLeft := hq0.f_toTheLeft
    have f_face := hq0.f_face
    have f_pos := hq0.f_pos
    have f_low := hq0.f_low
    have f_high := hq0.f_high
    have cb := hC
    refine v_iload dX13_findSides_5 0 rfl ?_
    refine v_aload_n dX13_findSides_7 rfl 3 rfl ?_
    refine v_getf 43 (ci := 11) (C := RX13) (T := TX13) (N := 71) rfl iwX13_findSides_X13 (Nat.le_of_ble_eq_true rfl) (by decide +kernel) dX13_findSides_8 (by first | with_reducible assumption) (by repeat (first | with_reducible assumption | (with_reducible refine (sv_ls (by first | omega | (simp only [List.length_set]; omega))).trans ?_; exact rfl) | with_reducible refine (List.getElem?_set_ne (by decide)).trans ?_)) ?_
    refine v_iload_n dX13_findSides_11 rfl 2 rfl ?_
    refine v_ialdS (v := nI n) dX13_findSides_12 (by first | with_reducible assumption) (vp_in_nI (by omega) (by omega)) (by rw [nI_clamp (by omega)]; exact hsd) ?_
    refine v_icmp_ge (tgt := 69) dX13_findSides_13 (by decide) (fun c_13 => ?_) (fun c_13 => ?_)
    · exact absurd c_13 (nI_ge (show k < n by omega) (by omega))
    · refine v_bipush (v := 17) dX13_findSides_16 (by decide) ?_
      refine v_iload_n dX13_findSides_18 rfl 2 rfl ?_
      refine v_imul dX13_findSides_19 ?_
      refine v_iload dX13_findSides_20 0 rfl ?_
      refine v_iadd dX13_findSides_22 ?_
      rw [sv_17]
      refine v_istore (L' := [(5, _), (4, _), (2, _), (1, _), (0, _)]) dX13_findSides_23 (Nat.le_of_ble_eq_true rfl) rfl ?_
      refine v_lload_n dX13_findSides_25 rfl 2 rfl ?_
      refine v_aload_n dX13_findSides_26 rfl 4 rfl ?_
      refine v_getf 44 (ci := 11) (C := RX13) (T := TX13) (N := 71) rfl iwX13_findSides_X13 (Nat.le_of_ble_eq_true rfl) (by decide +kernel) dX13_findSides_27 (by first | with_reducible assumption) (by repeat (first | with_reducible assumption | (with_reducible refine (sv_ls (by first | omega | (simp only [List.length_set]; omega))).trans ?_; exact rfl) | with_reducible refine (List.getElem?_set_ne (by decide)).trans ?_)) ?_
      refine v_iload dX13_findSides_30 0 rfl ?_
      refine v_laldS (v := jN (C k).1) dX13_findSides_32 (by first | with_reducible assumption) (vp_in_nI (by omega) (by omega)) (by rw [nI_clamp (by omega)]; exact hgx k (by omega)) ?_
      refine v_aload_n dX13_findSides_33 rfl 4 rfl ?_
      refine v_getf 45 (ci := 11) (C := RX13) (T := TX13) (N := 71) rfl iwX13_findSides_X13 (Nat.le_of_ble_eq_true rfl) (by decide +kernel) dX13_findSides_34 (by first | with_reducible assumption) (by repeat (first | with_reducible assumption | (with_reducible refine (sv_ls (by first | omega | (simp only [List.length_set]; omega))).trans ?_; exact rfl) | with_reducible refine (List.getElem?_set_ne (by decide)).trans ?_)) ?_
      refine v_iload dX13_findSides_37 0 rfl ?_
      refine v_iconst (v := 1) dX13_findSides_39 (by decide) ?_
      refine v_iadd dX13_findSides_40 ?_
      rw [nI_1]
      refine v_laldS (v := jN (C (k + 1)).2) dX13_findSides_41 (by first | with_reducible assumption) (vp_in_nI (by omega) (by omega)) (by rw [nI_clamp (by omega)]; exact hgy (k + 1) (by omega)) ?_
      refine v_lmul dX13_findSides_42 ?_
      refine v_aload_n dX13_findSides_43 rfl 4 rfl ?_
      refine v_getf 44 (ci := 11) (C := RX13) (T := TX13) (N := 71) rfl iwX13_findSides_X13 (Nat.le_of_ble_eq_true rfl) (by decide +kernel) dX13_findSides_44 (by first | with_reducible assumption) (by repeat (first | with_reducible assumption | (with_reducible refine (sv_ls (by first | omega | (simp only [List.length_set]; omega))).trans ?_; exact rfl) | with_reducible refine (List.getElem?_set_ne (by decide)).trans ?_)) ?_
      refine v_iload dX13_findSides_47 0 rfl ?_
      refine v_iconst (v := 1) dX13_findSides_49 (by decide) ?_
      refine v_iadd dX13_findSides_50 ?_
      rw [nI_1]
      refine v_laldS (v := jN (C (k + 1)).1) dX13_findSides_51 (by first | with_reducible assumption) (vp_in_nI (by omega) (by omega)) (by rw [nI_clamp (by omega)]; exact hgx (k + 1) (by omega)) ?_
      refine v_aload_n dX13_findSides_52 rfl 4 rfl ?_
      refine v_getf 45 (ci := 11) (C := RX13) (T := TX13) (N := 71) rfl iwX13_findSides_X13 (Nat.le_of_ble_eq_true rfl) (by decide +kernel) dX13_findSides_53 (by first | with_reducible assumption) (by repeat (first | with_reducible assumption | (with_reducible refine (sv_ls (by first | omega | (simp only [List.length_set]; omega))).trans ?_; exact rfl) | with_reducible refine (List.getElem?_set_ne (by decide)).trans ?_)) ?_
      refine v_iload dX13_findSides_56 0 rfl ?_
      refine v_laldS (v := jN (C k).2) dX13_findSides_58 (by first | with_reducible assumption) (vp_in_nI (by omega) (by omega)) (by rw [nI_clamp (by omega)]; exact hgy k (by omega)) ?_
      refine v_lmul dX13_findSides_59 ?_
      rw [← jN_mul, ← jN_mul]
      refine v_lsub dX13_findSides_60 ?_
      rw [← jN_sub]
      refine v_ladd dX13_findSides_61 ?_
      rw [← jN_add]
      refine v_lstore_n (L' := [(2, _), (5, _), (4, _), (1, _), (0, _)]) dX13_findSides_62 rfl (Nat.le_of_ble_eq_true rfl) rfl ?_
      refine v_iinc (j := 2) (L' := [(4, _), (2, _), (5, _), (1, _), (0, _)]) (v := nI (k + 1)) dX13_findSides_63 rfl (nI_1 _) (Nat.le_of_ble_eq_true rfl) rfl ?_
      refine v_goto (tgt := 5) dX13_findSides_66 (by decide) ?_
      refine v_sub (L' := [(4, _), (2, _), (1, _), (0, _)]) [0, 1, 3, 4] rfl ?_
      exact ih (k + 1) (by omega)

set_option maxHeartbeats 4000000 in
set_option maxRecDepth 100000 in
theorem l_fsF (G : sv_G) (Qr : Option Value → sv_h → Nat → Prop) (z b nc np pl : Nat) (hb : sv_h) (fs : List Value) (hq0 : mfq_ b nc np pl fs) (hm : hb (b + 220) = some (.inr (11, fs))) (w n : Nat) (hw : w < 2) (hn : n ≤ 16) (C : Nat → Int × Int) (hC : cbd C (n + 1)) (fsd : Nat → Int32) (h43 : ab_I G hb (b + 249) 2 fsd) (hsd : fsd w = nI n) (gx gy : Nat → Int64) (h44 : ab_J G hb (b + 250) 34 gx) (h45 : ab_J G hb (b + 251) 34 gy) (hgx : ∀ k, k ≤ n → gx (17 * w + k) = jN (C k).1) (hgy : ∀ k, k ≤ n → gy (17 * w + k) = jN (C k).2) (ff0 : Nat → Int32) (gp0 gl0 gh0 : Nat → Int64) (hk : ∀ (ff : Nat → Int32) (gp gl gh : Nat → Int64) (h : sv_h), ab_I G h (b + 253) 32 ff → ab_J G h (b + 254) 32 gp → ab_J G h (b + 255) 32 gl → ab_J G h (b + 256) 32 gh → (∀ i, i < n → ff (16 * w + i) = nI (fcM (twS C n) C i) ∧ gp (16 * w + i) = jN (itM C i).1 ∧ gl (16 * w + i) = jN (itM C i).2.1 ∧ gh (16 * w + i) = jN (itM C i).2.2) → (∀ a, ¬ (16 * w ≤ a ∧ a < 16 * w + 16) → ff a = ff0 a ∧ gp a = gp0 a ∧ gl a = gl0 a ∧ gh a = gh0 a) → (∀ a, ¬ (b + 253 ≤ a ∧ a < b + 257) → h a = hb a) → Qr none h z) : ∀ (e k : Nat) (ff : Nat → Int32) (gp gl gh : Nat → Int64) (h : sv_h), k + e = n → ab_I G h (b + 253) 32 ff → ab_J G h (b + 254) 32 gp → ab_J G h (b + 255) 32 gl → ab_J G h (b + 256) 32 gh → (∀ i, i < k → ff (16 * w + i) = nI (fcM (twS C n) C i) ∧ gp (16 * w + i) = jN (itM C i).1 ∧ gl (16 * w + i) = jN (itM C i).2.1 ∧ gh (16 * w + i) = jN (itM C i).2.2) → (∀ a, ¬ (16 * w ≤ a ∧ a < 16 * w + 16) → ff a = ff0 a ∧ gp a = gp0 a ∧ gl a = gl0 a ∧ gh a = gh0 a) → (∀ a, ¬ (b + 253 ≤ a ∧ a < b + 257) → h a = hb a) → V G mX13_findSides (sv_MQ G mX13_findSides Qr) 89 [(4, .int (nI k)), (2, .long (jN (twS C n))), (1, .int (nI w)), (0, .ref (b + 220))] [] h z 0 0 := by
  intro e
  induction e with
  | zero =>
    intro k ff gp gl gh h hke a1 a2 a3 a4 a5 a6 fr
    have hlen : fs.length = 71 := hq0.1
    have f_sides := hq0.f_sides
    have f_cx := hq0.f_cx
    have f_cy := hq0.f_cy
    have f_toTheLeft := hq0.f_toTheLeft
    have f_face := hq0.f_face
    have f_pos := hq0.f_pos
    have f_low := hq0.f_low
    have f_high := hq0.f_high
    have cb := hC
    have hm1 := (fr (b + 220) (by omega)).trans hm
    have w43 : ab_I G h (b + 249) 2 fsd := (fr _ (by omega)).trans h43
    have w44 : ab_J G h (b + 250) 34 gx := (fr _ (by omega)).trans h44
    have w45 : ab_J G h (b + 251) 34 gy := (fr _ (by omega)).trans h45
    have tb := twS_b hC n (Nat.le_refl n)
    have e9 : k = n := by omega
    refine v_iload dX13_findSides_89 0 rfl ?_
    refine v_aload_n dX13_findSides_91 rfl 3 rfl ?_
    refine v_getf 43 (ci := 11) (C := RX13) (T := TX13) (N := 71) rfl iwX13_findSides_X13 (Nat.le_of_ble_eq_true rfl) (by decide +kernel) dX13_findSides_92 (by repeat (first | with_reducible assumption | (with_reducible refine sv_us.trans ?_; exact rfl) | with_reducible refine (sv_un (by omega)).trans ?_)) (by repeat (first | with_reducible assumption | (with_reducible refine (sv_ls (by first | omega | (simp only [List.length_set]; omega))).trans ?_; exact rfl) | with_reducible refine (List.getElem?_set_ne (by decide)).trans ?_)) ?_
    refine v_iload_n dX13_findSides_95 rfl 2 rfl ?_
    refine v_ialdS (v := nI n) dX13_findSides_96 (by repeat (first | with_reducible assumption | (with_reducible refine sv_us.trans ?_; exact rfl) | with_reducible refine (sv_un (by omega)).trans ?_)) (vp_in_nI (by omega) (by omega)) (by rw [nI_clamp (by omega)]; exact hsd) ?_
    refine v_icmp_ge (tgt := 370) dX13_findSides_97 (by decide) (fun c_97 => ?_) (fun c_97 => ?_)
    · exact v_ret rfl dX13_findSides_370 (Nat.le_of_ble_eq_true rfl) (Nat.le_of_ble_eq_true rfl) (hk ff gp gl gh h a1 a2 a3 a4 (fun i hi => a5 i (by omega)) a6 fr)
    · exact absurd (nI_le (show n ≤ k by omega) (by omega)) c_97
  | succ e ih =>
    intro k ff gp gl gh h hke a1 a2 a3 a4 a5 a6 fr
    have hlen : fs.length = 71 := hq0.1
    have f_sides := hq0.f_sides
    have f_cx := hq0.f_cx
    have f_cy := hq0.f_cy
    have f_toTheLeft := hq0.f_toTheLeft
    have f_face := hq0.f_face
    have f_pos := hq0.f_pos
    have f_low := hq0.f_low
    have f_high := hq0.f_high
    have cb := hC
    have hm1 := (fr (b + 220) (by omega)).trans hm
    have w43 : ab_I G h (b + 249) 2 fsd := (fr _ (by omega)).trans h43
    have w44 : ab_J G h (b + 250) 34 gx := (fr _ (by omega)).trans h44
    have w45 : ab_J G h (b + 251) 34 gy := (fr _ (by omega)).trans h45
    have tb := twS_b hC n (Nat.le_refl n)
    have ck := hC k (by omega)
    have cn := hC (k + 1) (by omega)
    by_cases hst : (C k).1 = (C (k + 1)).1
    · refine v_iload dX13_findSides_89 0 rfl ?_
      refine v_aload_n dX13_findSides_91 rfl 3 rfl ?_
      refine v_getf 43 (ci := 11) (C := RX13) (T := TX13) (N := 71) rfl iwX13_findSides_X13 (Nat.le_of_ble_eq_true rfl) (by decide +kernel) dX13_findSides_92 (by repeat (first | with_reducible assumption | (with_reducible refine sv_us.trans ?_; exact rfl) | with_reducible refine (sv_un (by omega)).trans ?_)) (by repeat (first | with_reducible assumption | (with_reducible refine (sv_ls (by first | omega | (simp only [List.length_set]; omega))).trans ?_; exact rfl) | with_reducible refine (List.getElem?_set_ne (by decide)).trans ?_)) ?_
      refine v_iload_n dX13_findSides_95 rfl 2 rfl ?_
      refine v_ialdS (v := nI n) dX13_findSides_96 (by repeat (first | with_reducible assumption | (with_reducible refine sv_us.trans ?_; exact rfl) | with_reducible refine (sv_un (by omega)).trans ?_)) (vp_in_nI (by omega) (by omega)) (by rw [nI_clamp (by omega)]; exact hsd) ?_
      refine v_icmp_ge (tgt := 370) dX13_findSides_97 (by decide) (fun c_97 => ?_) (fun c_97 => ?_)
      · exact absurd c_97 (nI_ge (show k < n by omega) (by omega))
      · refine v_bipush (v := 17) dX13_findSides_100 (by decide) ?_
        refine v_iload_n dX13_findSides_102 rfl 2 rfl ?_
        refine v_imul dX13_findSides_103 ?_
        refine v_iload dX13_findSides_104 0 rfl ?_
        refine v_iadd dX13_findSides_106 ?_
        rw [sv_17]
        refine v_istore (L' := [(5, _), (4, _), (2, _), (1, _), (0, _)]) dX13_findSides_107 (Nat.le_of_ble_eq_true rfl) rfl ?_
        refine v_bipush (v := 16) dX13_findSides_109 (by decide) ?_
        refine v_iload_n dX13_findSides_111 rfl 3 rfl ?_
        refine v_imul dX13_findSides_112 ?_
        refine v_iload dX13_findSides_113 1 rfl ?_
        refine v_iadd dX13_findSides_115 ?_
        rw [sv_16a]
        refine v_istore (L' := [(6, _), (5, _), (4, _), (2, _), (1, _), (0, _)]) dX13_findSides_116 (Nat.le_of_ble_eq_true rfl) rfl ?_
        refine v_aload_n dX13_findSides_118 rfl 5 rfl ?_
        refine v_getf 44 (ci := 11) (C := RX13) (T := TX13) (N := 71) rfl iwX13_findSides_X13 (Nat.le_of_ble_eq_true rfl) (by decide +kernel) dX13_findSides_119 (by repeat (first | with_reducible assumption | (with_reducible refine sv_us.trans ?_; exact rfl) | with_reducible refine (sv_un (by omega)).trans ?_)) (by repeat (first | with_reducible assumption | (with_reducible refine (sv_ls (by first | omega | (simp only [List.length_set]; omega))).trans ?_; exact rfl) | with_reducible refine (List.getElem?_set_ne (by decide)).trans ?_)) ?_
        refine v_iload dX13_findSides_122 1 rfl ?_
        refine v_laldS (v := jN (C k).1) dX13_findSides_124 (by repeat (first | with_reducible assumption | (with_reducible refine sv_us.trans ?_; exact rfl) | with_reducible refine (sv_un (by omega)).trans ?_)) (vp_in_nI (by omega) (by omega)) (by rw [nI_clamp (by omega)]; exact hgx k (by omega)) ?_
        refine v_aload_n dX13_findSides_125 rfl 5 rfl ?_
        refine v_getf 44 (ci := 11) (C := RX13) (T := TX13) (N := 71) rfl iwX13_findSides_X13 (Nat.le_of_ble_eq_true rfl) (by decide +kernel) dX13_findSides_126 (by repeat (first | with_reducible assumption | (with_reducible refine sv_us.trans ?_; exact rfl) | with_reducible refine (sv_un (by omega)).trans ?_)) (by repeat (first | with_reducible assumption | (with_reducible refine (sv_ls (by first | omega | (simp only [List.length_set]; omega))).trans ?_; exact rfl) | with_reducible refine (List.getElem?_set_ne (by decide)).trans ?_)) ?_
        refine v_iload dX13_findSides_129 1 rfl ?_
        refine v_iconst (v := 1) dX13_findSides_131 (by decide) ?_
        refine v_iadd dX13_findSides_132 ?_
        rw [nI_1]
        refine v_laldS (v := jN (C (k + 1)).1) dX13_findSides_133 (by repeat (first | with_reducible assumption | (with_reducible refine sv_us.trans ?_; exact rfl) | with_reducible refine (sv_un (by omega)).trans ?_)) (vp_in_nI (by omega) (by omega)) (by rw [nI_clamp (by omega)]; exact hgx (k + 1) (by omega)) ?_
        refine v_lcmp_ne (tgt := 142) dX13_findSides_134 dX13_findSides_135 (by decide) (fun c_135 => ?_) (fun c_135 => ?_)
        · exact absurd (by rw [hst]) c_135
        · refine v_iconst (v := 1) dX13_findSides_138 (by decide) ?_
          refine v_goto (tgt := 143) dX13_findSides_139 (by decide) ?_
          refine v_istore (L' := [(7, _), (6, _), (5, _), (4, _), (2, _), (1, _), (0, _)]) dX13_findSides_143 (Nat.le_of_ble_eq_true rfl) rfl ?_
          refine v_iload dX13_findSides_145 0 rfl ?_
          refine v_if_eq (tgt := 178) dX13_findSides_147 (by decide) (fun c_147 => ?_) (fun c_147 => ?_)
          · exact absurd c_147 (by decide)
          · refine v_aload_n dX13_findSides_150 rfl 6 rfl ?_
            refine v_getf 45 (ci := 11) (C := RX13) (T := TX13) (N := 71) rfl iwX13_findSides_X13 (Nat.le_of_ble_eq_true rfl) (by decide +kernel) dX13_findSides_151 (by repeat (first | with_reducible assumption | (with_reducible refine sv_us.trans ?_; exact rfl) | with_reducible refine (sv_un (by omega)).trans ?_)) (by repeat (first | with_reducible assumption | (with_reducible refine (sv_ls (by first | omega | (simp only [List.length_set]; omega))).trans ?_; exact rfl) | with_reducible refine (List.getElem?_set_ne (by decide)).trans ?_)) ?_
            refine v_iload dX13_findSides_154 2 rfl ?_
            refine v_iconst (v := 1) dX13_findSides_156 (by decide) ?_
            refine v_iadd dX13_findSides_157 ?_
            rw [nI_1]
            refine v_laldS (v := jN (C (k + 1)).2) dX13_findSides_158 (by repeat (first | with_reducible assumption | (with_reducible refine sv_us.trans ?_; exact rfl) | with_reducible refine (sv_un (by omega)).trans ?_)) (vp_in_nI (by omega) (by omega)) (by rw [nI_clamp (by omega)]; exact hgy (k + 1) (by omega)) ?_
            refine v_aload_n dX13_findSides_159 rfl 6 rfl ?_
            refine v_getf 45 (ci := 11) (C := RX13) (T := TX13) (N := 71) rfl iwX13_findSides_X13 (Nat.le_of_ble_eq_true rfl) (by decide +kernel) dX13_findSides_160 (by repeat (first | with_reducible assumption | (with_reducible refine sv_us.trans ?_; exact rfl) | with_reducible refine (sv_un (by omega)).trans ?_)) (by repeat (first | with_reducible assumption | (with_reducible refine (sv_ls (by first | omega | (simp only [List.length_set]; omega))).trans ?_; exact rfl) | with_reducible refine (List.getElem?_set_ne (by decide)).trans ?_)) ?_
            refine v_iload dX13_findSides_163 2 rfl ?_
            refine v_laldS (v := jN (C k).2) dX13_findSides_165 (by repeat (first | with_reducible assumption | (with_reducible refine sv_us.trans ?_; exact rfl) | with_reducible refine (sv_un (by omega)).trans ?_)) (vp_in_nI (by omega) (by omega)) (by rw [nI_clamp (by omega)]; exact hgy k (by omega)) ?_
            refine v_lcmp_le (tgt := 174) dX13_findSides_166 dX13_findSides_167 (by decide) (fun c_167 => ?_) (fun c_167 => ?_)
            · refine v_iconst (v := 2) dX13_findSides_174 (by decide) ?_
              refine v_goto (tgt := 203) dX13_findSides_175 (by decide) ?_
              refine v_istore (L' := [(8, _), (7, _), (6, _), (5, _), (4, _), (2, _), (1, _), (0, _)]) dX13_findSides_203 (Nat.le_of_ble_eq_true rfl) rfl ?_
              refine v_aload_n dX13_findSides_205 rfl 7 rfl ?_
              refine v_getf 47 (ci := 11) (C := RX13) (T := TX13) (N := 71) rfl iwX13_findSides_X13 (Nat.le_of_ble_eq_true rfl) (by decide +kernel) dX13_findSides_206 (by repeat (first | with_reducible assumption | (with_reducible refine sv_us.trans ?_; exact rfl) | with_reducible refine (sv_un (by omega)).trans ?_)) (by repeat (first | with_reducible assumption | (with_reducible refine (sv_ls (by first | omega | (simp only [List.length_set]; omega))).trans ?_; exact rfl) | with_reducible refine (List.getElem?_set_ne (by decide)).trans ?_)) ?_
              refine v_iload dX13_findSides_209 2 rfl ?_
              refine v_lload_n dX13_findSides_211 rfl 5 rfl ?_
              refine v_lconst (v := 0) dX13_findSides_212 (by decide) ?_
              refine v_lcmp_le (tgt := 222) dX13_findSides_213 dX13_findSides_214 (by decide) (fun c_214 => ?_) (fun c_214 => ?_)
              · refine v_iload dX13_findSides_222 0 rfl ?_
                refine v_iconst (v := 2) dX13_findSides_224 (by decide) ?_
                refine v_iadd dX13_findSides_225 ?_
                refine v_iconst (v := 4) dX13_findSides_226 (by decide) ?_
                refine v_irem dX13_findSides_227 (by decide) ?_
                refine v_iast dX13_findSides_228 (by repeat (first | with_reducible assumption | (with_reducible refine sv_us.trans ?_; exact rfl) | with_reducible refine (sv_un (by omega)).trans ?_)) (vp_in_nI (by omega) (by omega)) ?_
                refine v_aload_n dX13_findSides_229 rfl 7 rfl ?_
                refine v_getf 48 (ci := 11) (C := RX13) (T := TX13) (N := 71) rfl iwX13_findSides_X13 (Nat.le_of_ble_eq_true rfl) (by decide +kernel) dX13_findSides_230 (by repeat (first | with_reducible assumption | (with_reducible refine sv_us.trans ?_; exact rfl) | with_reducible refine (sv_un (by omega)).trans ?_)) (by repeat (first | with_reducible assumption | (with_reducible refine (sv_ls (by first | omega | (simp only [List.length_set]; omega))).trans ?_; exact rfl) | with_reducible refine (List.getElem?_set_ne (by decide)).trans ?_)) ?_
                refine v_iload dX13_findSides_233 2 rfl ?_
                refine v_iload dX13_findSides_235 1 rfl ?_
                refine v_if_eq (tgt := 250) dX13_findSides_237 (by decide) (fun c_237 => ?_) (fun c_237 => ?_)
                · exact absurd c_237 (by decide)
                · refine v_aload_n dX13_findSides_240 rfl 7 rfl ?_
                  refine v_getf 44 (ci := 11) (C := RX13) (T := TX13) (N := 71) rfl iwX13_findSides_X13 (Nat.le_of_ble_eq_true rfl) (by decide +kernel) dX13_findSides_241 (by repeat (first | with_reducible assumption | (with_reducible refine sv_us.trans ?_; exact rfl) | with_reducible refine (sv_un (by omega)).trans ?_)) (by repeat (first | with_reducible assumption | (with_reducible refine (sv_ls (by first | omega | (simp only [List.length_set]; omega))).trans ?_; exact rfl) | with_reducible refine (List.getElem?_set_ne (by decide)).trans ?_)) ?_
                  refine v_iload dX13_findSides_244 3 rfl ?_
                  refine v_laldS (v := jN (C k).1) dX13_findSides_246 (by repeat (first | with_reducible assumption | (with_reducible refine sv_us.trans ?_; exact rfl) | with_reducible refine (sv_un (by omega)).trans ?_)) (vp_in_nI (by omega) (by omega)) (by rw [nI_clamp (by omega)]; exact hgx k (by omega)) ?_
                  refine v_goto (tgt := 257) dX13_findSides_247 (by decide) ?_
                  refine v_last dX13_findSides_257 (by repeat (first | with_reducible assumption | (with_reducible refine sv_us.trans ?_; exact rfl) | with_reducible refine (sv_un (by omega)).trans ?_)) (vp_in_nI (by omega) (by omega)) ?_
                  refine v_aload_n dX13_findSides_258 rfl 7 rfl ?_
                  refine v_getf 49 (ci := 11) (C := RX13) (T := TX13) (N := 71) rfl iwX13_findSides_X13 (Nat.le_of_ble_eq_true rfl) (by decide +kernel) dX13_findSides_259 (by repeat (first | with_reducible assumption | (with_reducible refine sv_us.trans ?_; exact rfl) | with_reducible refine (sv_un (by omega)).trans ?_)) (by repeat (first | with_reducible assumption | (with_reducible refine (sv_ls (by first | omega | (simp only [List.length_set]; omega))).trans ?_; exact rfl) | with_reducible refine (List.getElem?_set_ne (by decide)).trans ?_)) ?_
                  refine v_iload dX13_findSides_262 2 rfl ?_
                  refine v_iload dX13_findSides_264 1 rfl ?_
                  refine v_if_eq (tgt := 291) dX13_findSides_266 (by decide) (fun c_266 => ?_) (fun c_266 => ?_)
                  · exact absurd c_266 (by decide)
                  · refine v_aload_n dX13_findSides_269 rfl 7 rfl ?_
                    refine v_getf 45 (ci := 11) (C := RX13) (T := TX13) (N := 71) rfl iwX13_findSides_X13 (Nat.le_of_ble_eq_true rfl) (by decide +kernel) dX13_findSides_270 (by repeat (first | with_reducible assumption | (with_reducible refine sv_us.trans ?_; exact rfl) | with_reducible refine (sv_un (by omega)).trans ?_)) (by repeat (first | with_reducible assumption | (with_reducible refine (sv_ls (by first | omega | (simp only [List.length_set]; omega))).trans ?_; exact rfl) | with_reducible refine (List.getElem?_set_ne (by decide)).trans ?_)) ?_
                    refine v_iload dX13_findSides_273 3 rfl ?_
                    refine v_laldS (v := jN (C k).2) dX13_findSides_275 (by repeat (first | with_reducible assumption | (with_reducible refine sv_us.trans ?_; exact rfl) | with_reducible refine (sv_un (by omega)).trans ?_)) (vp_in_nI (by omega) (by omega)) (by rw [nI_clamp (by omega)]; exact hgy k (by omega)) ?_
                    refine v_aload_n dX13_findSides_276 rfl 7 rfl ?_
                    refine v_getf 45 (ci := 11) (C := RX13) (T := TX13) (N := 71) rfl iwX13_findSides_X13 (Nat.le_of_ble_eq_true rfl) (by decide +kernel) dX13_findSides_277 (by repeat (first | with_reducible assumption | (with_reducible refine sv_us.trans ?_; exact rfl) | with_reducible refine (sv_un (by omega)).trans ?_)) (by repeat (first | with_reducible assumption | (with_reducible refine (sv_ls (by first | omega | (simp only [List.length_set]; omega))).trans ?_; exact rfl) | with_reducible refine (List.getElem?_set_ne (by decide)).trans ?_)) ?_
                    refine v_iload dX13_findSides_280 3 rfl ?_
                    refine v_iconst (v := 1) dX13_findSides_282 (by decide) ?_
                    refine v_iadd dX13_findSides_283 ?_
                    rw [nI_1]
                    refine v_laldS (v := jN (C (k + 1)).2) dX13_findSides_284 (by repeat (first | with_reducible assumption | (with_reducible refine sv_us.trans ?_; exact rfl) | with_reducible refine (sv_un (by omega)).trans ?_)) (vp_in_nI (by omega) (by omega)) (by rw [nI_clamp (by omega)]; exact hgy (k + 1) (by omega)) ?_
                    refine v_callSq (M' := mX13_least) (n := 2) (As := [_, _]) ggX13_findSides_X13_least (by decide +kernel) (by decide +kernel) (by decide +kernel) rfl (by decide +kernel) ⟨(Nat.le_of_ble_eq_true rfl), (Nat.le_of_ble_eq_true rfl)⟩ dX13_findSides_285 rfl ⟨(Nat.le_of_ble_eq_true rfl), (Nat.le_of_ble_eq_true rfl)⟩ (Nat.le_of_ble_eq_true rfl) rfl (m_leastI G _ _ ck.2 cn.2) (fun v9 h9 y9 hq => v_pq hq ?_)
                    refine v_goto (tgt := 310) dX13_findSides_288 (by decide) ?_
                    refine v_last dX13_findSides_310 (by repeat (first | with_reducible assumption | (with_reducible refine sv_us.trans ?_; exact rfl) | with_reducible refine (sv_un (by omega)).trans ?_)) (vp_in_nI (by omega) (by omega)) ?_
                    refine v_aload_n dX13_findSides_311 rfl 7 rfl ?_
                    refine v_getf 50 (ci := 11) (C := RX13) (T := TX13) (N := 71) rfl iwX13_findSides_X13 (Nat.le_of_ble_eq_true rfl) (by decide +kernel) dX13_findSides_312 (by repeat (first | with_reducible assumption | (with_reducible refine sv_us.trans ?_; exact rfl) | with_reducible refine (sv_un (by omega)).trans ?_)) (by repeat (first | with_reducible assumption | (with_reducible refine (sv_ls (by first | omega | (simp only [List.length_set]; omega))).trans ?_; exact rfl) | with_reducible refine (List.getElem?_set_ne (by decide)).trans ?_)) ?_
                    refine v_iload dX13_findSides_315 2 rfl ?_
                    refine v_iload dX13_findSides_317 1 rfl ?_
                    refine v_if_eq (tgt := 344) dX13_findSides_319 (by decide) (fun c_319 => ?_) (fun c_319 => ?_)
                    · exact absurd c_319 (by decide)
                    · refine v_aload_n dX13_findSides_322 rfl 7 rfl ?_
                      refine v_getf 45 (ci := 11) (C := RX13) (T := TX13) (N := 71) rfl iwX13_findSides_X13 (Nat.le_of_ble_eq_true rfl) (by decide +kernel) dX13_findSides_323 (by repeat (first | with_reducible assumption | (with_reducible refine sv_us.trans ?_; exact rfl) | with_reducible refine (sv_un (by omega)).trans ?_)) (by repeat (first | with_reducible assumption | (with_reducible refine (sv_ls (by first | omega | (simp only [List.length_set]; omega))).trans ?_; exact rfl) | with_reducible refine (List.getElem?_set_ne (by decide)).trans ?_)) ?_
                      refine v_iload dX13_findSides_326 3 rfl ?_
                      refine v_laldS (v := jN (C k).2) dX13_findSides_328 (by repeat (first | with_reducible assumption | (with_reducible refine sv_us.trans ?_; exact rfl) | with_reducible refine (sv_un (by omega)).trans ?_)) (vp_in_nI (by omega) (by omega)) (by rw [nI_clamp (by omega)]; exact hgy k (by omega)) ?_
                      refine v_aload_n dX13_findSides_329 rfl 7 rfl ?_
                      refine v_getf 45 (ci := 11) (C := RX13) (T := TX13) (N := 71) rfl iwX13_findSides_X13 (Nat.le_of_ble_eq_true rfl) (by decide +kernel) dX13_findSides_330 (by repeat (first | with_reducible assumption | (with_reducible refine sv_us.trans ?_; exact rfl) | with_reducible refine (sv_un (by omega)).trans ?_)) (by repeat (first | with_reducible assumption | (with_reducible refine (sv_ls (by first | omega | (simp only [List.length_set]; omega))).trans ?_; exact rfl) | with_reducible refine (List.getElem?_set_ne (by decide)).trans ?_)) ?_
                      refine v_iload dX13_findSides_333 3 rfl ?_
                      refine v_iconst (v := 1) dX13_findSides_335 (by decide) ?_
                      refine v_iadd dX13_findSides_336 ?_
                      rw [nI_1]
                      refine v_laldS (v := jN (C (k + 1)).2) dX13_findSides_337 (by repeat (first | with_reducible assumption | (with_reducible refine sv_us.trans ?_; exact rfl) | with_reducible refine (sv_un (by omega)).trans ?_)) (vp_in_nI (by omega) (by omega)) (by rw [nI_clamp (by omega)]; exact hgy (k + 1) (by omega)) ?_
                      refine v_callSq (M' := mX13_most) (n := 2) (As := [_, _]) ggX13_findSides_X13_most (by decide +kernel) (by decide +kernel) (by decide +kernel) rfl (by decide +kernel) ⟨(Nat.le_of_ble_eq_true rfl), (Nat.le_of_ble_eq_true rfl)⟩ dX13_findSides_338 rfl ⟨(Nat.le_of_ble_eq_true rfl), (Nat.le_of_ble_eq_true rfl)⟩ (Nat.le_of_ble_eq_true rfl) rfl (m_mostI G _ _ ck.2 cn.2) (fun v9 h9 y9 hq => v_pq hq ?_)
                      refine v_goto (tgt := 363) dX13_findSides_341 (by decide) ?_
                      refine v_last dX13_findSides_363 (by repeat (first | with_reducible assumption | (with_reducible refine sv_us.trans ?_; exact rfl) | with_reducible refine (sv_un (by omega)).trans ?_)) (vp_in_nI (by omega) (by omega)) ?_
                      refine v_iinc (j := 4) (L' := [(4, _), (8, _), (7, _), (6, _), (5, _), (2, _), (1, _), (0, _)]) (v := nI (k + 1)) dX13_findSides_364 rfl (nI_1 _) (Nat.le_of_ble_eq_true rfl) rfl ?_
                      refine v_goto (tgt := 89) dX13_findSides_367 (by decide) ?_
                      refine v_sub (L' := [(4, _), (2, _), (1, _), (0, _)]) [0, 5, 6, 7] rfl ?_
                      rw [nI_clamp (show 16 * w + k < 2 ^ 31 by omega)]
                      have hit : itM C k = ((C k).1, min (C k).2 (C (k + 1)).2, max (C k).2 (C (k + 1)).2) := if_pos hst
                      have ht : toM C k = (if (C k).2 < (C (k + 1)).2 then 0 else 2) := if_pos hst
                      refine ih (k + 1) (upd ff (16 * w + k) _) (vp_updL gp (16 * w + k) _) (vp_updL gl (16 * w + k) _) (vp_updL gh (16 * w + k) _) _ (by omega) ((sv_un (by omega)).trans ((sv_un (by omega)).trans ((sv_un (by omega)).trans sv_us))) ((sv_un (by omega)).trans ((sv_un (by omega)).trans sv_us)) ((sv_un (by omega)).trans sv_us) sv_us (fun i hi => ?_) (fun a p => ?_) (fun a p => (sv_un (by omega)).trans ((sv_un (by omega)).trans ((sv_un (by omega)).trans ((sv_un (by omega)).trans (fr a p)))))
                      · by_cases e9 : i = k
                        · subst e9
                          rw [hit]
                          refine ⟨(if_pos rfl).trans ?_, pk_uLs, pk_uLs, pk_uLs⟩
                          unfold fcM
                          rw [ht]
                          first
                            | (have c9 : jN (twS C n) ≤ 0 := c_214
                               rw [Int64.le_iff_toInt_le, jN_to (by omega) (by omega)] at c9
                               have c7 : twS C n ≤ 0 := c9
                               rw [if_neg (Int.not_lt.mpr c7)]
                               first
                                 | (have c8 : jN _ ≤ jN _ := c_167
                                    rw [jN_le (by omega) (by omega) (by omega) (by omega)] at c8
                                    rw [if_neg (Int.not_lt.mpr c8)]
                                    decide)
                                 | (have c8 := Int64.not_le.mp c_167
                                    rw [jN_lt (by omega) (by omega) (by omega) (by omega)] at c8
                                    rw [if_pos c8]
                                    decide))
                            | (have c9 := Int64.not_le.mp c_214
                               rw [Int64.lt_iff_toInt_lt, jN_to (by omega) (by omega)] at c9
                               have c7 : 0 < twS C n := c9
                               rw [if_pos c7]
                               first
                                 | (have c8 : jN _ ≤ jN _ := c_167
                                    rw [jN_le (by omega) (by omega) (by omega) (by omega)] at c8
                                    rw [if_neg (Int.not_lt.mpr c8)]
                                    rfl)
                                 | (have c8 := Int64.not_le.mp c_167
                                    rw [jN_lt (by omega) (by omega) (by omega) (by omega)] at c8
                                    rw [if_pos c8]
                                    rfl))
                        · obtain ⟨r1, r2, r3, r4⟩ := a5 i (by omega)
                          exact ⟨(if_neg (by omega)).trans r1, (pk_uLn (by omega)).trans r2, (pk_uLn (by omega)).trans r3, (pk_uLn (by omega)).trans r4⟩
                      · obtain ⟨r1, r2, r3, r4⟩ := a6 a p
                        exact ⟨(if_neg (by omega)).trans r1, (pk_uLn (by omega)).trans r2, (pk_uLn (by omega)).trans r3, (pk_uLn (by omega)).trans r4⟩
              · refine v_iload dX13_findSides_217 0 rfl ?_
                refine v_goto (tgt := 228) dX13_findSides_219 (by decide) ?_
                refine v_iast dX13_findSides_228 (by repeat (first | with_reducible assumption | (with_reducible refine sv_us.trans ?_; exact rfl) | with_reducible refine (sv_un (by omega)).trans ?_)) (vp_in_nI (by omega) (by omega)) ?_
                refine v_aload_n dX13_findSides_229 rfl 7 rfl ?_
                refine v_getf 48 (ci := 11) (C := RX13) (T := TX13) (N := 71) rfl iwX13_findSides_X13 (Nat.le_of_ble_eq_true rfl) (by decide +kernel) dX13_findSides_230 (by repeat (first | with_reducible assumption | (with_reducible refine sv_us.trans ?_; exact rfl) | with_reducible refine (sv_un (by omega)).trans ?_)) (by repeat (first | with_reducible assumption | (with_reducible refine (sv_ls (by first | omega | (simp only [List.length_set]; omega))).trans ?_; exact rfl) | with_reducible refine (List.getElem?_set_ne (by decide)).trans ?_)) ?_
                refine v_iload dX13_findSides_233 2 rfl ?_
                refine v_iload dX13_findSides_235 1 rfl ?_
                refine v_if_eq (tgt := 250) dX13_findSides_237 (by decide) (fun c_237 => ?_) (fun c_237 => ?_)
                · exact absurd c_237 (by decide)
                · refine v_aload_n dX13_findSides_240 rfl 7 rfl ?_
                  refine v_getf 44 (ci := 11) (C := RX13) (T := TX13) (N := 71) rfl iwX13_findSides_X13 (Nat.le_of_ble_eq_true rfl) (by decide +kernel) dX13_findSides_241 (by repeat (first | with_reducible assumption | (with_reducible refine sv_us.trans ?_; exact rfl) | with_reducible refine (sv_un (by omega)).trans ?_)) (by repeat (first | with_reducible assumption | (with_reducible refine (sv_ls (by first | omega | (simp only [List.length_set]; omega))).trans ?_; exact rfl) | with_reducible refine (List.getElem?_set_ne (by decide)).trans ?_)) ?_
                  refine v_iload dX13_findSides_244 3 rfl ?_
                  refine v_laldS (v := jN (C k).1) dX13_findSides_246 (by repeat (first | with_reducible assumption | (with_reducible refine sv_us.trans ?_; exact rfl) | with_reducible refine (sv_un (by omega)).trans ?_)) (vp_in_nI (by omega) (by omega)) (by rw [nI_clamp (by omega)]; exact hgx k (by omega)) ?_
                  refine v_goto (tgt := 257) dX13_findSides_247 (by decide) ?_
                  refine v_last dX13_findSides_257 (by repeat (first | with_reducible assumption | (with_reducible refine sv_us.trans ?_; exact rfl) | with_reducible refine (sv_un (by omega)).trans ?_)) (vp_in_nI (by omega) (by omega)) ?_
                  refine v_aload_n dX13_findSides_258 rfl 7 rfl ?_
                  refine v_getf 49 (ci := 11) (C := RX13) (T := TX13) (N := 71) rfl iwX13_findSides_X13 (Nat.le_of_ble_eq_true rfl) (by decide +kernel) dX13_findSides_259 (by repeat (first | with_reducible assumption | (with_reducible refine sv_us.trans ?_; exact rfl) | with_reducible refine (sv_un (by omega)).trans ?_)) (by repeat (first | with_reducible assumption | (with_reducible refine (sv_ls (by first | omega | (simp only [List.length_set]; omega))).trans ?_; exact rfl) | with_reducible refine (List.getElem?_set_ne (by decide)).trans ?_)) ?_
                  refine v_iload dX13_findSides_262 2 rfl ?_
                  refine v_iload dX13_findSides_264 1 rfl ?_
                  refine v_if_eq (tgt := 291) dX13_findSides_266 (by decide) (fun c_266 => ?_) (fun c_266 => ?_)
                  · exact absurd c_266 (by decide)
                  · refine v_aload_n dX13_findSides_269 rfl 7 rfl ?_
                    refine v_getf 45 (ci := 11) (C := RX13) (T := TX13) (N := 71) rfl iwX13_findSides_X13 (Nat.le_of_ble_eq_true rfl) (by decide +kernel) dX13_findSides_270 (by repeat (first | with_reducible assumption | (with_reducible refine sv_us.trans ?_; exact rfl) | with_reducible refine (sv_un (by omega)).trans ?_)) (by repeat (first | with_reducible assumption | (with_reducible refine (sv_ls (by first | omega | (simp only [List.length_set]; omega))).trans ?_; exact rfl) | with_reducible refine (List.getElem?_set_ne (by decide)).trans ?_)) ?_
                    refine v_iload dX13_findSides_273 3 rfl ?_
                    refine v_laldS (v := jN (C k).2) dX13_findSides_275 (by repeat (first | with_reducible assumption | (with_reducible refine sv_us.trans ?_; exact rfl) | with_reducible refine (sv_un (by omega)).trans ?_)) (vp_in_nI (by omega) (by omega)) (by rw [nI_clamp (by omega)]; exact hgy k (by omega)) ?_
                    refine v_aload_n dX13_findSides_276 rfl 7 rfl ?_
                    refine v_getf 45 (ci := 11) (C := RX13) (T := TX13) (N := 71) rfl iwX13_findSides_X13 (Nat.le_of_ble_eq_true rfl) (by decide +kernel) dX13_findSides_277 (by repeat (first | with_reducible assumption | (with_reducible refine sv_us.trans ?_; exact rfl) | with_reducible refine (sv_un (by omega)).trans ?_)) (by repeat (first | with_reducible assumption | (with_reducible refine (sv_ls (by first | omega | (simp only [List.length_set]; omega))).trans ?_; exact rfl) | with_reducible refine (List.getElem?_set_ne (by decide)).trans ?_)) ?_
                    refine v_iload dX13_findSides_280 3 rfl ?_
                    refine v_iconst (v := 1) dX13_findSides_282 (by decide) ?_
                    refine v_iadd dX13_findSides_283 ?_
                    rw [nI_1]
                    refine v_laldS (v := jN (C (k + 1)).2) dX13_findSides_284 (by repeat (first | with_reducible assumption | (with_reducible refine sv_us.trans ?_; exact rfl) | with_reducible refine (sv_un (by omega)).trans ?_)) (vp_in_nI (by omega) (by omega)) (by rw [nI_clamp (by omega)]; exact hgy (k + 1) (by omega)) ?_
                    refine v_callSq (M' := mX13_least) (n := 2) (As := [_, _]) ggX13_findSides_X13_least (by decide +kernel) (by decide +kernel) (by decide +kernel) rfl (by decide +kernel) ⟨(Nat.le_of_ble_eq_true rfl), (Nat.le_of_ble_eq_true rfl)⟩ dX13_findSides_285 rfl ⟨(Nat.le_of_ble_eq_true rfl), (Nat.le_of_ble_eq_true rfl)⟩ (Nat.le_of_ble_eq_true rfl) rfl (m_leastI G _ _ ck.2 cn.2) (fun v9 h9 y9 hq => v_pq hq ?_)
                    refine v_goto (tgt := 310) dX13_findSides_288 (by decide) ?_
                    refine v_last dX13_findSides_310 (by repeat (first | with_reducible assumption | (with_reducible refine sv_us.trans ?_; exact rfl) | with_reducible refine (sv_un (by omega)).trans ?_)) (vp_in_nI (by omega) (by omega)) ?_
                    refine v_aload_n dX13_findSides_311 rfl 7 rfl ?_
                    refine v_getf 50 (ci := 11) (C := RX13) (T := TX13) (N := 71) rfl iwX13_findSides_X13 (Nat.le_of_ble_eq_true rfl) (by decide +kernel) dX13_findSides_312 (by repeat (first | with_reducible assumption | (with_reducible refine sv_us.trans ?_; exact rfl) | with_reducible refine (sv_un (by omega)).trans ?_)) (by repeat (first | with_reducible assumption | (with_reducible refine (sv_ls (by first | omega | (simp only [List.length_set]; omega))).trans ?_; exact rfl) | with_reducible refine (List.getElem?_set_ne (by decide)).trans ?_)) ?_
                    refine v_iload dX13_findSides_315 2 rfl ?_
                    refine v_iload dX13_findSides_317 1 rfl ?_
                    refine v_if_eq (tgt := 344) dX13_findSides_319 (by decide) (fun c_319 => ?_) (fun c_319 => ?_)
                    · exact absurd c_319 (by decide)
                    · refine v_aload_n dX13_findSides_322 rfl 7 rfl ?_
                      refine v_getf 45 (ci := 11) (C := RX13) (T := TX13) (N := 71) rfl iwX13_findSides_X13 (Nat.le_of_ble_eq_true rfl) (by decide +kernel) dX13_findSides_323 (by repeat (first | with_reducible assumption | (with_reducible refine sv_us.trans ?_; exact rfl) | with_reducible refine (sv_un (by omega)).trans ?_)) (by repeat (first | with_reducible assumption | (with_reducible refine (sv_ls (by first | omega | (simp only [List.length_set]; omega))).trans ?_; exact rfl) | with_reducible refine (List.getElem?_set_ne (by decide)).trans ?_)) ?_
                      refine v_iload dX13_findSides_326 3 rfl ?_
                      refine v_laldS (v := jN (C k).2) dX13_findSides_328 (by repeat (first | with_reducible assumption | (with_reducible refine sv_us.trans ?_; exact rfl) | with_reducible refine (sv_un (by omega)).trans ?_)) (vp_in_nI (by omega) (by omega)) (by rw [nI_clamp (by omega)]; exact hgy k (by omega)) ?_
                      refine v_aload_n dX13_findSides_329 rfl 7 rfl ?_
                      refine v_getf 45 (ci := 11) (C := RX13) (T := TX13) (N := 71) rfl iwX13_findSides_X13 (Nat.le_of_ble_eq_true rfl) (by decide +kernel) dX13_findSides_330 (by repeat (first | with_reducible assumption | (with_reducible refine sv_us.trans ?_; exact rfl) | with_reducible refine (sv_un (by omega)).trans ?_)) (by repeat (first | with_reducible assumption | (with_reducible refine (sv_ls (by first | omega | (simp only [List.length_set]; omega))).trans ?_; exact rfl) | with_reducible refine (List.getElem?_set_ne (by decide)).trans ?_)) ?_
                      refine v_iload dX13_findSides_333 3 rfl ?_
                      refine v_iconst (v := 1) dX13_findSides_335 (by decide) ?_
                      refine v_iadd dX13_findSides_336 ?_
                      rw [nI_1]
                      refine v_laldS (v := jN (C (k + 1)).2) dX13_findSides_337 (by repeat (first | with_reducible assumption | (with_reducible refine sv_us.trans ?_; exact rfl) | with_reducible refine (sv_un (by omega)).trans ?_)) (vp_in_nI (by omega) (by omega)) (by rw [nI_clamp (by omega)]; exact hgy (k + 1) (by omega)) ?_
                      refine v_callSq (M' := mX13_most) (n := 2) (As := [_, _]) ggX13_findSides_X13_most (by decide +kernel) (by decide +kernel) (by decide +kernel) rfl (by decide +kernel) ⟨(Nat.le_of_ble_eq_true rfl), (Nat.le_of_ble_eq_true rfl)⟩ dX13_findSides_338 rfl ⟨(Nat.le_of_ble_eq_true rfl), (Nat.le_of_ble_eq_true rfl)⟩ (Nat.le_of_ble_eq_true rfl) rfl (m_mostI G _ _ ck.2 cn.2) (fun v9 h9 y9 hq => v_pq hq ?_)
                      refine v_goto (tgt := 363) dX13_findSides_341 (by decide) ?_
                      refine v_last dX13_findSides_363 (by repeat (first | with_reducible assumption | (with_reducible refine sv_us.trans ?_; exact rfl) | with_reducible refine (sv_un (by omega)).trans ?_)) (vp_in_nI (by omega) (by omega)) ?_
                      refine v_iinc (j := 4) (L' := [(4, _), (8, _), (7, _), (6, _), (5, _), (2, _), (1, _), (0, _)]) (v := nI (k + 1)) dX13_findSides_364 rfl (nI_1 _) (Nat.le_of_ble_eq_true rfl) rfl ?_
                      refine v_goto (tgt := 89) dX13_findSides_367 (by decide) ?_
                      refine v_sub (L' := [(4, _), (2, _), (1, _), (0, _)]) [0, 5, 6, 7] rfl ?_
                      rw [nI_clamp (show 16 * w + k < 2 ^ 31 by omega)]
                      have hit : itM C k = ((C k).1, min (C k).2 (C (k + 1)).2, max (C k).2 (C (k + 1)).2) := if_pos hst
                      have ht : toM C k = (if (C k).2 < (C (k + 1)).2 then 0 else 2) := if_pos hst
                      refine ih (k + 1) (upd ff (16 * w + k) _) (vp_updL gp (16 * w + k) _) (vp_updL gl (16 * w + k) _) (vp_updL gh (16 * w + k) _) _ (by omega) ((sv_un (by omega)).trans ((sv_un (by omega)).trans ((sv_un (by omega)).trans sv_us))) ((sv_un (by omega)).trans ((sv_un (by omega)).trans sv_us)) ((sv_un (by omega)).trans sv_us) sv_us (fun i hi => ?_) (fun a p => ?_) (fun a p => (sv_un (by omega)).trans ((sv_un (by omega)).trans ((sv_un (by omega)).trans ((sv_un (by omega)).trans (fr a p)))))
                      · by_cases e9 : i = k
                        · subst e9
                          rw [hit]
                          refine ⟨(if_pos rfl).trans ?_, pk_uLs, pk_uLs, pk_uLs⟩
                          unfold fcM
                          rw [ht]
                          first
                            | (have c9 : jN (twS C n) ≤ 0 := c_214
                               rw [Int64.le_iff_toInt_le, jN_to (by omega) (by omega)] at c9
                               have c7 : twS C n ≤ 0 := c9
                               rw [if_neg (Int.not_lt.mpr c7)]
                               first
                                 | (have c8 : jN _ ≤ jN _ := c_167
                                    rw [jN_le (by omega) (by omega) (by omega) (by omega)] at c8
                                    rw [if_neg (Int.not_lt.mpr c8)]
                                    decide)
                                 | (have c8 := Int64.not_le.mp c_167
                                    rw [jN_lt (by omega) (by omega) (by omega) (by omega)] at c8
                                    rw [if_pos c8]
                                    decide))
                            | (have c9 := Int64.not_le.mp c_214
                               rw [Int64.lt_iff_toInt_lt, jN_to (by omega) (by omega)] at c9
                               have c7 : 0 < twS C n := c9
                               rw [if_pos c7]
                               first
                                 | (have c8 : jN _ ≤ jN _ := c_167
                                    rw [jN_le (by omega) (by omega) (by omega) (by omega)] at c8
                                    rw [if_neg (Int.not_lt.mpr c8)]
                                    rfl)
                                 | (have c8 := Int64.not_le.mp c_167
                                    rw [jN_lt (by omega) (by omega) (by omega) (by omega)] at c8
                                    rw [if_pos c8]
                                    rfl))
                        · obtain ⟨r1, r2, r3, r4⟩ := a5 i (by omega)
                          exact ⟨(if_neg (by omega)).trans r1, (pk_uLn (by omega)).trans r2, (pk_uLn (by omega)).trans r3, (pk_uLn (by omega)).trans r4⟩
                      · obtain ⟨r1, r2, r3, r4⟩ := a6 a p
                        exact ⟨(if_neg (by omega)).trans r1, (pk_uLn (by omega)).trans r2, (pk_uLn (by omega)).trans r3, (pk_uLn (by omega)).trans r4⟩
            · refine v_iconst (v := 0) dX13_findSides_170 (by decide) ?_
              refine v_goto (tgt := 203) dX13_findSides_171 (by decide) ?_
              refine v_istore (L' := [(8, _), (7, _), (6, _), (5, _), (4, _), (2, _), (1, _), (0, _)]) dX13_findSides_203 (Nat.le_of_ble_eq_true rfl) rfl ?_
              refine v_aload_n dX13_findSides_205 rfl 7 rfl ?_
              refine v_getf 47 (ci := 11) (C := RX13) (T := TX13) (N := 71) rfl iwX13_findSides_X13 (Nat.le_of_ble_eq_true rfl) (by decide +kernel) dX13_findSides_206 (by repeat (first | with_reducible assumption | (with_reducible refine sv_us.trans ?_; exact rfl) | with_reducible refine (sv_un (by omega)).trans ?_)) (by repeat (first | with_reducible assumption | (with_reducible refine (sv_ls (by first | omega | (simp only [List.length_set]; omega))).trans ?_; exact rfl) | with_reducible refine (List.getElem?_set_ne (by decide)).trans ?_)) ?_
              refine v_iload dX13_findSides_209 2 rfl ?_
              refine v_lload_n dX13_findSides_211 rfl 5 rfl ?_
              refine v_lconst (v := 0) dX13_findSides_212 (by decide) ?_
              refine v_lcmp_le (tgt := 222) dX13_findSides_213 dX13_findSides_214 (by decide) (fun c_214 => ?_) (fun c_214 => ?_)
              · refine v_iload dX13_findSides_222 0 rfl ?_
                refine v_iconst (v := 2) dX13_findSides_224 (by decide) ?_
                refine v_iadd dX13_findSides_225 ?_
                refine v_iconst (v := 4) dX13_findSides_226 (by decide) ?_
                refine v_irem dX13_findSides_227 (by decide) ?_
                refine v_iast dX13_findSides_228 (by repeat (first | with_reducible assumption | (with_reducible refine sv_us.trans ?_; exact rfl) | with_reducible refine (sv_un (by omega)).trans ?_)) (vp_in_nI (by omega) (by omega)) ?_
                refine v_aload_n dX13_findSides_229 rfl 7 rfl ?_
                refine v_getf 48 (ci := 11) (C := RX13) (T := TX13) (N := 71) rfl iwX13_findSides_X13 (Nat.le_of_ble_eq_true rfl) (by decide +kernel) dX13_findSides_230 (by repeat (first | with_reducible assumption | (with_reducible refine sv_us.trans ?_; exact rfl) | with_reducible refine (sv_un (by omega)).trans ?_)) (by repeat (first | with_reducible assumption | (with_reducible refine (sv_ls (by first | omega | (simp only [List.length_set]; omega))).trans ?_; exact rfl) | with_reducible refine (List.getElem?_set_ne (by decide)).trans ?_)) ?_
                refine v_iload dX13_findSides_233 2 rfl ?_
                refine v_iload dX13_findSides_235 1 rfl ?_
                refine v_if_eq (tgt := 250) dX13_findSides_237 (by decide) (fun c_237 => ?_) (fun c_237 => ?_)
                · exact absurd c_237 (by decide)
                · refine v_aload_n dX13_findSides_240 rfl 7 rfl ?_
                  refine v_getf 44 (ci := 11) (C := RX13) (T := TX13) (N := 71) rfl iwX13_findSides_X13 (Nat.le_of_ble_eq_true rfl) (by decide +kernel) dX13_findSides_241 (by repeat (first | with_reducible assumption | (with_reducible refine sv_us.trans ?_; exact rfl) | with_reducible refine (sv_un (by omega)).trans ?_)) (by repeat (first | with_reducible assumption | (with_reducible refine (sv_ls (by first | omega | (simp only [List.length_set]; omega))).trans ?_; exact rfl) | with_reducible refine (List.getElem?_set_ne (by decide)).trans ?_)) ?_
                  refine v_iload dX13_findSides_244 3 rfl ?_
                  refine v_laldS (v := jN (C k).1) dX13_findSides_246 (by repeat (first | with_reducible assumption | (with_reducible refine sv_us.trans ?_; exact rfl) | with_reducible refine (sv_un (by omega)).trans ?_)) (vp_in_nI (by omega) (by omega)) (by rw [nI_clamp (by omega)]; exact hgx k (by omega)) ?_
                  refine v_goto (tgt := 257) dX13_findSides_247 (by decide) ?_
                  refine v_last dX13_findSides_257 (by repeat (first | with_reducible assumption | (with_reducible refine sv_us.trans ?_; exact rfl) | with_reducible refine (sv_un (by omega)).trans ?_)) (vp_in_nI (by omega) (by omega)) ?_
                  refine v_aload_n dX13_findSides_258 rfl 7 rfl ?_
                  refine v_getf 49 (ci := 11) (C := RX13) (T := TX13) (N := 71) rfl iwX13_findSides_X13 (Nat.le_of_ble_eq_true rfl) (by decide +kernel) dX13_findSides_259 (by repeat (first | with_reducible assumption | (with_reducible refine sv_us.trans ?_; exact rfl) | with_reducible refine (sv_un (by omega)).trans ?_)) (by repeat (first | with_reducible assumption | (with_reducible refine (sv_ls (by first | omega | (simp only [List.length_set]; omega))).trans ?_; exact rfl) | with_reducible refine (List.getElem?_set_ne (by decide)).trans ?_)) ?_
                  refine v_iload dX13_findSides_262 2 rfl ?_
                  refine v_iload dX13_findSides_264 1 rfl ?_
                  refine v_if_eq (tgt := 291) dX13_findSides_266 (by decide) (fun c_266 => ?_) (fun c_266 => ?_)
                  · exact absurd c_266 (by decide)
                  · refine v_aload_n dX13_findSides_269 rfl 7 rfl ?_
                    refine v_getf 45 (ci := 11) (C := RX13) (T := TX13) (N := 71) rfl iwX13_findSides_X13 (Nat.le_of_ble_eq_true rfl) (by decide +kernel) dX13_findSides_270 (by repeat (first | with_reducible assumption | (with_reducible refine sv_us.trans ?_; exact rfl) | with_reducible refine (sv_un (by omega)).trans ?_)) (by repeat (first | with_reducible assumption | (with_reducible refine (sv_ls (by first | omega | (simp only [List.length_set]; omega))).trans ?_; exact rfl) | with_reducible refine (List.getElem?_set_ne (by decide)).trans ?_)) ?_
                    refine v_iload dX13_findSides_273 3 rfl ?_
                    refine v_laldS (v := jN (C k).2) dX13_findSides_275 (by repeat (first | with_reducible assumption | (with_reducible refine sv_us.trans ?_; exact rfl) | with_reducible refine (sv_un (by omega)).trans ?_)) (vp_in_nI (by omega) (by omega)) (by rw [nI_clamp (by omega)]; exact hgy k (by omega)) ?_
                    refine v_aload_n dX13_findSides_276 rfl 7 rfl ?_
                    refine v_getf 45 (ci := 11) (C := RX13) (T := TX13) (N := 71) rfl iwX13_findSides_X13 (Nat.le_of_ble_eq_true rfl) (by decide +kernel) dX13_findSides_277 (by repeat (first | with_reducible assumption | (with_reducible refine sv_us.trans ?_; exact rfl) | with_reducible refine (sv_un (by omega)).trans ?_)) (by repeat (first | with_reducible assumption | (with_reducible refine (sv_ls (by first | omega | (simp only [List.length_set]; omega))).trans ?_; exact rfl) | with_reducible refine (List.getElem?_set_ne (by decide)).trans ?_)) ?_
                    refine v_iload dX13_findSides_280 3 rfl ?_
                    refine v_iconst (v := 1) dX13_findSides_282 (by decide) ?_
                    refine v_iadd dX13_findSides_283 ?_
                    rw [nI_1]
                    refine v_laldS (v := jN (C (k + 1)).2) dX13_findSides_284 (by repeat (first | with_reducible assumption | (with_reducible refine sv_us.trans ?_; exact rfl) | with_reducible refine (sv_un (by omega)).trans ?_)) (vp_in_nI (by omega) (by omega)) (by rw [nI_clamp (by omega)]; exact hgy (k + 1) (by omega)) ?_
                    refine v_callSq (M' := mX13_least) (n := 2) (As := [_, _]) ggX13_findSides_X13_least (by decide +kernel) (by decide +kernel) (by decide +kernel) rfl (by decide +kernel) ⟨(Nat.le_of_ble_eq_true rfl), (Nat.le_of_ble_eq_true rfl)⟩ dX13_findSides_285 rfl ⟨(Nat.le_of_ble_eq_true rfl), (Nat.le_of_ble_eq_true rfl)⟩ (Nat.le_of_ble_eq_true rfl) rfl (m_leastI G _ _ ck.2 cn.2) (fun v9 h9 y9 hq => v_pq hq ?_)
                    refine v_goto (tgt := 310) dX13_findSides_288 (by decide) ?_
                    refine v_last dX13_findSides_310 (by repeat (first | with_reducible assumption | (with_reducible refine sv_us.trans ?_; exact rfl) | with_reducible refine (sv_un (by omega)).trans ?_)) (vp_in_nI (by omega) (by omega)) ?_
                    refine v_aload_n dX13_findSides_311 rfl 7 rfl ?_
                    refine v_getf 50 (ci := 11) (C := RX13) (T := TX13) (N := 71) rfl iwX13_findSides_X13 (Nat.le_of_ble_eq_true rfl) (by decide +kernel) dX13_findSides_312 (by repeat (first | with_reducible assumption | (with_reducible refine sv_us.trans ?_; exact rfl) | with_reducible refine (sv_un (by omega)).trans ?_)) (by repeat (first | with_reducible assumption | (with_reducible refine (sv_ls (by first | omega | (simp only [List.length_set]; omega))).trans ?_; exact rfl) | with_reducible refine (List.getElem?_set_ne (by decide)).trans ?_)) ?_
                    refine v_iload dX13_findSides_315 2 rfl ?_
                    refine v_iload dX13_findSides_317 1 rfl ?_
                    refine v_if_eq (tgt := 344) dX13_findSides_319 (by decide) (fun c_319 => ?_) (fun c_319 => ?_)
                    · exact absurd c_319 (by decide)
                    · refine v_aload_n dX13_findSides_322 rfl 7 rfl ?_
                      refine v_getf 45 (ci := 11) (C := RX13) (T := TX13) (N := 71) rfl iwX13_findSides_X13 (Nat.le_of_ble_eq_true rfl) (by decide +kernel) dX13_findSides_323 (by repeat (first | with_reducible assumption | (with_reducible refine sv_us.trans ?_; exact rfl) | with_reducible refine (sv_un (by omega)).trans ?_)) (by repeat (first | with_reducible assumption | (with_reducible refine (sv_ls (by first | omega | (simp only [List.length_set]; omega))).trans ?_; exact rfl) | with_reducible refine (List.getElem?_set_ne (by decide)).trans ?_)) ?_
                      refine v_iload dX13_findSides_326 3 rfl ?_
                      refine v_laldS (v := jN (C k).2) dX13_findSides_328 (by repeat (first | with_reducible assumption | (with_reducible refine sv_us.trans ?_; exact rfl) | with_reducible refine (sv_un (by omega)).trans ?_)) (vp_in_nI (by omega) (by omega)) (by rw [nI_clamp (by omega)]; exact hgy k (by omega)) ?_
                      refine v_aload_n dX13_findSides_329 rfl 7 rfl ?_
                      refine v_getf 45 (ci := 11) (C := RX13) (T := TX13) (N := 71) rfl iwX13_findSides_X13 (Nat.le_of_ble_eq_true rfl) (by decide +kernel) dX13_findSides_330 (by repeat (first | with_reducible assumption | (with_reducible refine sv_us.trans ?_; exact rfl) | with_reducible refine (sv_un (by omega)).trans ?_)) (by repeat (first | with_reducible assumption | (with_reducible refine (sv_ls (by first | omega | (simp only [List.length_set]; omega))).trans ?_; exact rfl) | with_reducible refine (List.getElem?_set_ne (by decide)).trans ?_)) ?_
                      refine v_iload dX13_findSides_333 3 rfl ?_
                      refine v_iconst (v := 1) dX13_findSides_335 (by decide) ?_
                      refine v_iadd dX13_findSides_336 ?_
                      rw [nI_1]
                      refine v_laldS (v := jN (C (k + 1)).2) dX13_findSides_337 (by repeat (first | with_reducible assumption | (with_reducible refine sv_us.trans ?_; exact rfl) | with_reducible refine (sv_un (by omega)).trans ?_)) (vp_in_nI (by omega) (by omega)) (by rw [nI_clamp (by omega)]; exact hgy (k + 1) (by omega)) ?_
                      refine v_callSq (M' := mX13_most) (n := 2) (As := [_, _]) ggX13_findSides_X13_most (by decide +kernel) (by decide +kernel) (by decide +kernel) rfl (by decide +kernel) ⟨(Nat.le_of_ble_eq_true rfl), (Nat.le_of_ble_eq_true rfl)⟩ dX13_findSides_338 rfl ⟨(Nat.le_of_ble_eq_true rfl), (Nat.le_of_ble_eq_true rfl)⟩ (Nat.le_of_ble_eq_true rfl) rfl (m_mostI G _ _ ck.2 cn.2) (fun v9 h9 y9 hq => v_pq hq ?_)
                      refine v_goto (tgt := 363) dX13_findSides_341 (by decide) ?_
                      refine v_last dX13_findSides_363 (by repeat (first | with_reducible assumption | (with_reducible refine sv_us.trans ?_; exact rfl) | with_reducible refine (sv_un (by omega)).trans ?_)) (vp_in_nI (by omega) (by omega)) ?_
                      refine v_iinc (j := 4) (L' := [(4, _), (8, _), (7, _), (6, _), (5, _), (2, _), (1, _), (0, _)]) (v := nI (k + 1)) dX13_findSides_364 rfl (nI_1 _) (Nat.le_of_ble_eq_true rfl) rfl ?_
                      refine v_goto (tgt := 89) dX13_findSides_367 (by decide) ?_
                      refine v_sub (L' := [(4, _), (2, _), (1, _), (0, _)]) [0, 5, 6, 7] rfl ?_
                      rw [nI_clamp (show 16 * w + k < 2 ^ 31 by omega)]
                      have hit : itM C k = ((C k).1, min (C k).2 (C (k + 1)).2, max (C k).2 (C (k + 1)).2) := if_pos hst
                      have ht : toM C k = (if (C k).2 < (C (k + 1)).2 then 0 else 2) := if_pos hst
                      refine ih (k + 1) (upd ff (16 * w + k) _) (vp_updL gp (16 * w + k) _) (vp_updL gl (16 * w + k) _) (vp_updL gh (16 * w + k) _) _ (by omega) ((sv_un (by omega)).trans ((sv_un (by omega)).trans ((sv_un (by omega)).trans sv_us))) ((sv_un (by omega)).trans ((sv_un (by omega)).trans sv_us)) ((sv_un (by omega)).trans sv_us) sv_us (fun i hi => ?_) (fun a p => ?_) (fun a p => (sv_un (by omega)).trans ((sv_un (by omega)).trans ((sv_un (by omega)).trans ((sv_un (by omega)).trans (fr a p)))))
                      · by_cases e9 : i = k
                        · subst e9
                          rw [hit]
                          refine ⟨(if_pos rfl).trans ?_, pk_uLs, pk_uLs, pk_uLs⟩
                          unfold fcM
                          rw [ht]
                          first
                            | (have c9 : jN (twS C n) ≤ 0 := c_214
                               rw [Int64.le_iff_toInt_le, jN_to (by omega) (by omega)] at c9
                               have c7 : twS C n ≤ 0 := c9
                               rw [if_neg (Int.not_lt.mpr c7)]
                               first
                                 | (have c8 : jN _ ≤ jN _ := c_167
                                    rw [jN_le (by omega) (by omega) (by omega) (by omega)] at c8
                                    rw [if_neg (Int.not_lt.mpr c8)]
                                    decide)
                                 | (have c8 := Int64.not_le.mp c_167
                                    rw [jN_lt (by omega) (by omega) (by omega) (by omega)] at c8
                                    rw [if_pos c8]
                                    decide))
                            | (have c9 := Int64.not_le.mp c_214
                               rw [Int64.lt_iff_toInt_lt, jN_to (by omega) (by omega)] at c9
                               have c7 : 0 < twS C n := c9
                               rw [if_pos c7]
                               first
                                 | (have c8 : jN _ ≤ jN _ := c_167
                                    rw [jN_le (by omega) (by omega) (by omega) (by omega)] at c8
                                    rw [if_neg (Int.not_lt.mpr c8)]
                                    rfl)
                                 | (have c8 := Int64.not_le.mp c_167
                                    rw [jN_lt (by omega) (by omega) (by omega) (by omega)] at c8
                                    rw [if_pos c8]
                                    rfl))
                        · obtain ⟨r1, r2, r3, r4⟩ := a5 i (by omega)
                          exact ⟨(if_neg (by omega)).trans r1, (pk_uLn (by omega)).trans r2, (pk_uLn (by omega)).trans r3, (pk_uLn (by omega)).trans r4⟩
                      · obtain ⟨r1, r2, r3, r4⟩ := a6 a p
                        exact ⟨(if_neg (by omega)).trans r1, (pk_uLn (by omega)).trans r2, (pk_uLn (by omega)).trans r3, (pk_uLn (by omega)).trans r4⟩
              · refine v_iload dX13_findSides_217 0 rfl ?_
                refine v_goto (tgt := 228) dX13_findSides_219 (by decide) ?_
                refine v_iast dX13_findSides_228 (by repeat (first | with_reducible assumption | (with_reducible refine sv_us.trans ?_; exact rfl) | with_reducible refine (sv_un (by omega)).trans ?_)) (vp_in_nI (by omega) (by omega)) ?_
                refine v_aload_n dX13_findSides_229 rfl 7 rfl ?_
                refine v_getf 48 (ci := 11) (C := RX13) (T := TX13) (N := 71) rfl iwX13_findSides_X13 (Nat.le_of_ble_eq_true rfl) (by decide +kernel) dX13_findSides_230 (by repeat (first | with_reducible assumption | (with_reducible refine sv_us.trans ?_; exact rfl) | with_reducible refine (sv_un (by omega)).trans ?_)) (by repeat (first | with_reducible assumption | (with_reducible refine (sv_ls (by first | omega | (simp only [List.length_set]; omega))).trans ?_; exact rfl) | with_reducible refine (List.getElem?_set_ne (by decide)).trans ?_)) ?_
                refine v_iload dX13_findSides_233 2 rfl ?_
                refine v_iload dX13_findSides_235 1 rfl ?_
                refine v_if_eq (tgt := 250) dX13_findSides_237 (by decide) (fun c_237 => ?_) (fun c_237 => ?_)
                · exact absurd c_237 (by decide)
                · refine v_aload_n dX13_findSides_240 rfl 7 rfl ?_
                  refine v_getf 44 (ci := 11) (C := RX13) (T := TX13) (N := 71) rfl iwX13_findSides_X13 (Nat.le_of_ble_eq_true rfl) (by decide +kernel) dX13_findSides_241 (by repeat (first | with_reducible assumption | (with_reducible refine sv_us.trans ?_; exact rfl) | with_reducible refine (sv_un (by omega)).trans ?_)) (by repeat (first | with_reducible assumption | (with_reducible refine (sv_ls (by first | omega | (simp only [List.length_set]; omega))).trans ?_; exact rfl) | with_reducible refine (List.getElem?_set_ne (by decide)).trans ?_)) ?_
                  refine v_iload dX13_findSides_244 3 rfl ?_
                  refine v_laldS (v := jN (C k).1) dX13_findSides_246 (by repeat (first | with_reducible assumption | (with_reducible refine sv_us.trans ?_; exact rfl) | with_reducible refine (sv_un (by omega)).trans ?_)) (vp_in_nI (by omega) (by omega)) (by rw [nI_clamp (by omega)]; exact hgx k (by omega)) ?_
                  refine v_goto (tgt := 257) dX13_findSides_247 (by decide) ?_
                  refine v_last dX13_findSides_257 (by repeat (first | with_reducible assumption | (with_reducible refine sv_us.trans ?_; exact rfl) | with_reducible refine (sv_un (by omega)).trans ?_)) (vp_in_nI (by omega) (by omega)) ?_
                  refine v_aload_n dX13_findSides_258 rfl 7 rfl ?_
                  refine v_getf 49 (ci := 11) (C := RX13) (T := TX13) (N := 71) rfl iwX13_findSides_X13 (Nat.le_of_ble_eq_true rfl) (by decide +kernel) dX13_findSides_259 (by repeat (first | with_reducible assumption | (with_reducible refine sv_us.trans ?_; exact rfl) | with_reducible refine (sv_un (by omega)).trans ?_)) (by repeat (first | with_reducible assumption | (with_reducible refine (sv_ls (by first | omega | (simp only [List.length_set]; omega))).trans ?_; exact rfl) | with_reducible refine (List.getElem?_set_ne (by decide)).trans ?_)) ?_
                  refine v_iload dX13_findSides_262 2 rfl ?_
                  refine v_iload dX13_findSides_264 1 rfl ?_
                  refine v_if_eq (tgt := 291) dX13_findSides_266 (by decide) (fun c_266 => ?_) (fun c_266 => ?_)
                  · exact absurd c_266 (by decide)
                  · refine v_aload_n dX13_findSides_269 rfl 7 rfl ?_
                    refine v_getf 45 (ci := 11) (C := RX13) (T := TX13) (N := 71) rfl iwX13_findSides_X13 (Nat.le_of_ble_eq_true rfl) (by decide +kernel) dX13_findSides_270 (by repeat (first | with_reducible assumption | (with_reducible refine sv_us.trans ?_; exact rfl) | with_reducible refine (sv_un (by omega)).trans ?_)) (by repeat (first | with_reducible assumption | (with_reducible refine (sv_ls (by first | omega | (simp only [List.length_set]; omega))).trans ?_; exact rfl) | with_reducible refine (List.getElem?_set_ne (by decide)).trans ?_)) ?_
                    refine v_iload dX13_findSides_273 3 rfl ?_
                    refine v_laldS (v := jN (C k).2) dX13_findSides_275 (by repeat (first | with_reducible assumption | (with_reducible refine sv_us.trans ?_; exact rfl) | with_reducible refine (sv_un (by omega)).trans ?_)) (vp_in_nI (by omega) (by omega)) (by rw [nI_clamp (by omega)]; exact hgy k (by omega)) ?_
                    refine v_aload_n dX13_findSides_276 rfl 7 rfl ?_
                    refine v_getf 45 (ci := 11) (C := RX13) (T := TX13) (N := 71) rfl iwX13_findSides_X13 (Nat.le_of_ble_eq_true rfl) (by decide +kernel) dX13_findSides_277 (by repeat (first | with_reducible assumption | (with_reducible refine sv_us.trans ?_; exact rfl) | with_reducible refine (sv_un (by omega)).trans ?_)) (by repeat (first | with_reducible assumption | (with_reducible refine (sv_ls (by first | omega | (simp only [List.length_set]; omega))).trans ?_; exact rfl) | with_reducible refine (List.getElem?_set_ne (by decide)).trans ?_)) ?_
                    refine v_iload dX13_findSides_280 3 rfl ?_
                    refine v_iconst (v := 1) dX13_findSides_282 (by decide) ?_
                    refine v_iadd dX13_findSides_283 ?_
                    rw [nI_1]
                    refine v_laldS (v := jN (C (k + 1)).2) dX13_findSides_284 (by repeat (first | with_reducible assumption | (with_reducible refine sv_us.trans ?_; exact rfl) | with_reducible refine (sv_un (by omega)).trans ?_)) (vp_in_nI (by omega) (by omega)) (by rw [nI_clamp (by omega)]; exact hgy (k + 1) (by omega)) ?_
                    refine v_callSq (M' := mX13_least) (n := 2) (As := [_, _]) ggX13_findSides_X13_least (by decide +kernel) (by decide +kernel) (by decide +kernel) rfl (by decide +kernel) ⟨(Nat.le_of_ble_eq_true rfl), (Nat.le_of_ble_eq_true rfl)⟩ dX13_findSides_285 rfl ⟨(Nat.le_of_ble_eq_true rfl), (Nat.le_of_ble_eq_true rfl)⟩ (Nat.le_of_ble_eq_true rfl) rfl (m_leastI G _ _ ck.2 cn.2) (fun v9 h9 y9 hq => v_pq hq ?_)
                    refine v_goto (tgt := 310) dX13_findSides_288 (by decide) ?_
                    refine v_last dX13_findSides_310 (by repeat (first | with_reducible assumption | (with_reducible refine sv_us.trans ?_; exact rfl) | with_reducible refine (sv_un (by omega)).trans ?_)) (vp_in_nI (by omega) (by omega)) ?_
                    refine v_aload_n dX13_findSides_311 rfl 7 rfl ?_
                    refine v_getf 50 (ci := 11) (C := RX13) (T := TX13) (N := 71) rfl iwX13_findSides_X13 (Nat.le_of_ble_eq_true rfl) (by decide +kernel) dX13_findSides_312 (by repeat (first | with_reducible assumption | (with_reducible refine sv_us.trans ?_; exact rfl) | with_reducible refine (sv_un (by omega)).trans ?_)) (by repeat (first | with_reducible assumption | (with_reducible refine (sv_ls (by first | omega | (simp only [List.length_set]; omega))).trans ?_; exact rfl) | with_reducible refine (List.getElem?_set_ne (by decide)).trans ?_)) ?_
                    refine v_iload dX13_findSides_315 2 rfl ?_
                    refine v_iload dX13_findSides_317 1 rfl ?_
                    refine v_if_eq (tgt := 344) dX13_findSides_319 (by decide) (fun c_319 => ?_) (fun c_319 => ?_)
                    · exact absurd c_319 (by decide)
                    · refine v_aload_n dX13_findSides_322 rfl 7 rfl ?_
                      refine v_getf 45 (ci := 11) (C := RX13) (T := TX13) (N := 71) rfl iwX13_findSides_X13 (Nat.le_of_ble_eq_true rfl) (by decide +kernel) dX13_findSides_323 (by repeat (first | with_reducible assumption | (with_reducible refine sv_us.trans ?_; exact rfl) | with_reducible refine (sv_un (by omega)).trans ?_)) (by repeat (first | with_reducible assumption | (with_reducible refine (sv_ls (by first | omega | (simp only [List.length_set]; omega))).trans ?_; exact rfl) | with_reducible refine (List.getElem?_set_ne (by decide)).trans ?_)) ?_
                      refine v_iload dX13_findSides_326 3 rfl ?_
                      refine v_laldS (v := jN (C k).2) dX13_findSides_328 (by repeat (first | with_reducible assumption | (with_reducible refine sv_us.trans ?_; exact rfl) | with_reducible refine (sv_un (by omega)).trans ?_)) (vp_in_nI (by omega) (by omega)) (by rw [nI_clamp (by omega)]; exact hgy k (by omega)) ?_
                      refine v_aload_n dX13_findSides_329 rfl 7 rfl ?_
                      refine v_getf 45 (ci := 11) (C := RX13) (T := TX13) (N := 71) rfl iwX13_findSides_X13 (Nat.le_of_ble_eq_true rfl) (by decide +kernel) dX13_findSides_330 (by repeat (first | with_reducible assumption | (with_reducible refine sv_us.trans ?_; exact rfl) | with_reducible refine (sv_un (by omega)).trans ?_)) (by repeat (first | with_reducible assumption | (with_reducible refine (sv_ls (by first | omega | (simp only [List.length_set]; omega))).trans ?_; exact rfl) | with_reducible refine (List.getElem?_set_ne (by decide)).trans ?_)) ?_
                      refine v_iload dX13_findSides_333 3 rfl ?_
                      refine v_iconst (v := 1) dX13_findSides_335 (by decide) ?_
                      refine v_iadd dX13_findSides_336 ?_
                      rw [nI_1]
                      refine v_laldS (v := jN (C (k + 1)).2) dX13_findSides_337 (by repeat (first | with_reducible assumption | (with_reducible refine sv_us.trans ?_; exact rfl) | with_reducible refine (sv_un (by omega)).trans ?_)) (vp_in_nI (by omega) (by omega)) (by rw [nI_clamp (by omega)]; exact hgy (k + 1) (by omega)) ?_
                      refine v_callSq (M' := mX13_most) (n := 2) (As := [_, _]) ggX13_findSides_X13_most (by decide +kernel) (by decide +kernel) (by decide +kernel) rfl (by decide +kernel) ⟨(Nat.le_of_ble_eq_true rfl), (Nat.le_of_ble_eq_true rfl)⟩ dX13_findSides_338 rfl ⟨(Nat.le_of_ble_eq_true rfl), (Nat.le_of_ble_eq_true rfl)⟩ (Nat.le_of_ble_eq_true rfl) rfl (m_mostI G _ _ ck.2 cn.2) (fun v9 h9 y9 hq => v_pq hq ?_)
                      refine v_goto (tgt := 363) dX13_findSides_341 (by decide) ?_
                      refine v_last dX13_findSides_363 (by repeat (first | with_reducible assumption | (with_reducible refine sv_us.trans ?_; exact rfl) | with_reducible refine (sv_un (by omega)).trans ?_)) (vp_in_nI (by omega) (by omega)) ?_
                      refine v_iinc (j := 4) (L' := [(4, _), (8, _), (7, _), (6, _), (5, _), (2, _), (1, _), (0, _)]) (v := nI (k + 1)) dX13_findSides_364 rfl (nI_1 _) (Nat.le_of_ble_eq_true rfl) rfl ?_
                      refine v_goto (tgt := 89) dX13_findSides_367 (by decide) ?_
                      refine v_sub (L' := [(4, _), (2, _), (1, _), (0, _)]) [0, 5, 6, 7] rfl ?_
                      rw [nI_clamp (show 16 * w + k < 2 ^ 31 by omega)]
                      have hit : itM C k = ((C k).1, min (C k).2 (C (k + 1)).2, max (C k).2 (C (k + 1)).2) := if_pos hst
                      have ht : toM C k = (if (C k).2 < (C (k + 1)).2 then 0 else 2) := if_pos hst
                      refine ih (k + 1) (upd ff (16 * w + k) _) (vp_updL gp (16 * w + k) _) (vp_updL gl (16 * w + k) _) (vp_updL gh (16 * w + k) _) _ (by omega) ((sv_un (by omega)).trans ((sv_un (by omega)).trans ((sv_un (by omega)).trans sv_us))) ((sv_un (by omega)).trans ((sv_un (by omega)).trans sv_us)) ((sv_un (by omega)).trans sv_us) sv_us (fun i hi => ?_) (fun a p => ?_) (fun a p => (sv_un (by omega)).trans ((sv_un (by omega)).trans ((sv_un (by omega)).trans ((sv_un (by omega)).trans (fr a p)))))
                      · by_cases e9 : i = k
                        · subst e9
                          rw [hit]
                          refine ⟨(if_pos rfl).trans ?_, pk_uLs, pk_uLs, pk_uLs⟩
                          unfold fcM
                          rw [ht]
                          first
                            | (have c9 : jN (twS C n) ≤ 0 := c_214
                               rw [Int64.le_iff_toInt_le, jN_to (by omega) (by omega)] at c9
                               have c7 : twS C n ≤ 0 := c9
                               rw [if_neg (Int.not_lt.mpr c7)]
                               first
                                 | (have c8 : jN _ ≤ jN _ := c_167
                                    rw [jN_le (by omega) (by omega) (by omega) (by omega)] at c8
                                    rw [if_neg (Int.not_lt.mpr c8)]
                                    decide)
                                 | (have c8 := Int64.not_le.mp c_167
                                    rw [jN_lt (by omega) (by omega) (by omega) (by omega)] at c8
                                    rw [if_pos c8]
                                    decide))
                            | (have c9 := Int64.not_le.mp c_214
                               rw [Int64.lt_iff_toInt_lt, jN_to (by omega) (by omega)] at c9
                               have c7 : 0 < twS C n := c9
                               rw [if_pos c7]
                               first
                                 | (have c8 : jN _ ≤ jN _ := c_167
                                    rw [jN_le (by omega) (by omega) (by omega) (by omega)] at c8
                                    rw [if_neg (Int.not_lt.mpr c8)]
                                    rfl)
                                 | (have c8 := Int64.not_le.mp c_167
                                    rw [jN_lt (by omega) (by omega) (by omega) (by omega)] at c8
                                    rw [if_pos c8]
                                    rfl))
                        · obtain ⟨r1, r2, r3, r4⟩ := a5 i (by omega)
                          exact ⟨(if_neg (by omega)).trans r1, (pk_uLn (by omega)).trans r2, (pk_uLn (by omega)).trans r3, (pk_uLn (by omega)).trans r4⟩
                      · obtain ⟨r1, r2, r3, r4⟩ := a6 a p
                        exact ⟨(if_neg (by omega)).trans r1, (pk_uLn (by omega)).trans r2, (pk_uLn (by omega)).trans r3, (pk_uLn (by omega)).trans r4⟩
    · refine v_iload dX13_findSides_89 0 rfl ?_
      refine v_aload_n dX13_findSides_91 rfl 3 rfl ?_
      refine v_getf 43 (ci := 11) (C := RX13) (T := TX13) (N := 71) rfl iwX13_findSides_X13 (Nat.le_of_ble_eq_true rfl) (by decide +kernel) dX13_findSides_92 (by repeat (first | with_reducible assumption | (with_reducible refine sv_us.trans ?_; exact rfl) | with_reducible refine (sv_un (by omega)).trans ?_)) (by repeat (first | with_reducible assumption | (with_reducible refine (sv_ls (by first | omega | (simp only [List.length_set]; omega))).trans ?_; exact rfl) | with_reducible refine (List.getElem?_set_ne (by decide)).trans ?_)) ?_
      refine v_iload_n dX13_findSides_95 rfl 2 rfl ?_
      refine v_ialdS (v := nI n) dX13_findSides_96 (by repeat (first | with_reducible assumption | (with_reducible refine sv_us.trans ?_; exact rfl) | with_reducible refine (sv_un (by omega)).trans ?_)) (vp_in_nI (by omega) (by omega)) (by rw [nI_clamp (by omega)]; exact hsd) ?_
      refine v_icmp_ge (tgt := 370) dX13_findSides_97 (by decide) (fun c_97 => ?_) (fun c_97 => ?_)
      · exact absurd c_97 (nI_ge (show k < n by omega) (by omega))
      · refine v_bipush (v := 17) dX13_findSides_100 (by decide) ?_
        refine v_iload_n dX13_findSides_102 rfl 2 rfl ?_
        refine v_imul dX13_findSides_103 ?_
        refine v_iload dX13_findSides_104 0 rfl ?_
        refine v_iadd dX13_findSides_106 ?_
        rw [sv_17]
        refine v_istore (L' := [(5, _), (4, _), (2, _), (1, _), (0, _)]) dX13_findSides_107 (Nat.le_of_ble_eq_true rfl) rfl ?_
        refine v_bipush (v := 16) dX13_findSides_109 (by decide) ?_
        refine v_iload_n dX13_findSides_111 rfl 3 rfl ?_
        refine v_imul dX13_findSides_112 ?_
        refine v_iload dX13_findSides_113 1 rfl ?_
        refine v_iadd dX13_findSides_115 ?_
        rw [sv_16a]
        refine v_istore (L' := [(6, _), (5, _), (4, _), (2, _), (1, _), (0, _)]) dX13_findSides_116 (Nat.le_of_ble_eq_true rfl) rfl ?_
        refine v_aload_n dX13_findSides_118 rfl 5 rfl ?_
        refine v_getf 44 (ci := 11) (C := RX13) (T := TX13) (N := 71) rfl iwX13_findSides_X13 (Nat.le_of_ble_eq_true rfl) (by decide +kernel) dX13_findSides_119 (by repeat (first | with_reducible assumption | (with_reducible refine sv_us.trans ?_; exact rfl) | with_reducible refine (sv_un (by omega)).trans ?_)) (by repeat (first | with_reducible assumption | (with_reducible refine (sv_ls (by first | omega | (simp only [List.length_set]; omega))).trans ?_; exact rfl) | with_reducible refine (List.getElem?_set_ne (by decide)).trans ?_)) ?_
        refine v_iload dX13_findSides_122 1 rfl ?_
        refine v_laldS (v := jN (C k).1) dX13_findSides_124 (by repeat (first | with_reducible assumption | (with_reducible refine sv_us.trans ?_; exact rfl) | with_reducible refine (sv_un (by omega)).trans ?_)) (vp_in_nI (by omega) (by omega)) (by rw [nI_clamp (by omega)]; exact hgx k (by omega)) ?_
        refine v_aload_n dX13_findSides_125 rfl 5 rfl ?_
        refine v_getf 44 (ci := 11) (C := RX13) (T := TX13) (N := 71) rfl iwX13_findSides_X13 (Nat.le_of_ble_eq_true rfl) (by decide +kernel) dX13_findSides_126 (by repeat (first | with_reducible assumption | (with_reducible refine sv_us.trans ?_; exact rfl) | with_reducible refine (sv_un (by omega)).trans ?_)) (by repeat (first | with_reducible assumption | (with_reducible refine (sv_ls (by first | omega | (simp only [List.length_set]; omega))).trans ?_; exact rfl) | with_reducible refine (List.getElem?_set_ne (by decide)).trans ?_)) ?_
        refine v_iload dX13_findSides_129 1 rfl ?_
        refine v_iconst (v := 1) dX13_findSides_131 (by decide) ?_
        refine v_iadd dX13_findSides_132 ?_
        rw [nI_1]
        refine v_laldS (v := jN (C (k + 1)).1) dX13_findSides_133 (by repeat (first | with_reducible assumption | (with_reducible refine sv_us.trans ?_; exact rfl) | with_reducible refine (sv_un (by omega)).trans ?_)) (vp_in_nI (by omega) (by omega)) (by rw [nI_clamp (by omega)]; exact hgx (k + 1) (by omega)) ?_
        refine v_lcmp_ne (tgt := 142) dX13_findSides_134 dX13_findSides_135 (by decide) (fun c_135 => ?_) (fun c_135 => ?_)
        · refine v_iconst (v := 0) dX13_findSides_142 (by decide) ?_
          refine v_istore (L' := [(7, _), (6, _), (5, _), (4, _), (2, _), (1, _), (0, _)]) dX13_findSides_143 (Nat.le_of_ble_eq_true rfl) rfl ?_
          refine v_iload dX13_findSides_145 0 rfl ?_
          refine v_if_eq (tgt := 178) dX13_findSides_147 (by decide) (fun c_147 => ?_) (fun c_147 => ?_)
          · refine v_aload_n dX13_findSides_178 rfl 6 rfl ?_
            refine v_getf 44 (ci := 11) (C := RX13) (T := TX13) (N := 71) rfl iwX13_findSides_X13 (Nat.le_of_ble_eq_true rfl) (by decide +kernel) dX13_findSides_179 (by repeat (first | with_reducible assumption | (with_reducible refine sv_us.trans ?_; exact rfl) | with_reducible refine (sv_un (by omega)).trans ?_)) (by repeat (first | with_reducible assumption | (with_reducible refine (sv_ls (by first | omega | (simp only [List.length_set]; omega))).trans ?_; exact rfl) | with_reducible refine (List.getElem?_set_ne (by decide)).trans ?_)) ?_
            refine v_iload dX13_findSides_182 2 rfl ?_
            refine v_iconst (v := 1) dX13_findSides_184 (by decide) ?_
            refine v_iadd dX13_findSides_185 ?_
            rw [nI_1]
            refine v_laldS (v := jN (C (k + 1)).1) dX13_findSides_186 (by repeat (first | with_reducible assumption | (with_reducible refine sv_us.trans ?_; exact rfl) | with_reducible refine (sv_un (by omega)).trans ?_)) (vp_in_nI (by omega) (by omega)) (by rw [nI_clamp (by omega)]; exact hgx (k + 1) (by omega)) ?_
            refine v_aload_n dX13_findSides_187 rfl 6 rfl ?_
            refine v_getf 44 (ci := 11) (C := RX13) (T := TX13) (N := 71) rfl iwX13_findSides_X13 (Nat.le_of_ble_eq_true rfl) (by decide +kernel) dX13_findSides_188 (by repeat (first | with_reducible assumption | (with_reducible refine sv_us.trans ?_; exact rfl) | with_reducible refine (sv_un (by omega)).trans ?_)) (by repeat (first | with_reducible assumption | (with_reducible refine (sv_ls (by first | omega | (simp only [List.length_set]; omega))).trans ?_; exact rfl) | with_reducible refine (List.getElem?_set_ne (by decide)).trans ?_)) ?_
            refine v_iload dX13_findSides_191 2 rfl ?_
            refine v_laldS (v := jN (C k).1) dX13_findSides_193 (by repeat (first | with_reducible assumption | (with_reducible refine sv_us.trans ?_; exact rfl) | with_reducible refine (sv_un (by omega)).trans ?_)) (vp_in_nI (by omega) (by omega)) (by rw [nI_clamp (by omega)]; exact hgx k (by omega)) ?_
            refine v_lcmp_le (tgt := 202) dX13_findSides_194 dX13_findSides_195 (by decide) (fun c_195 => ?_) (fun c_195 => ?_)
            · refine v_iconst (v := 1) dX13_findSides_202 (by decide) ?_
              refine v_istore (L' := [(8, _), (7, _), (6, _), (5, _), (4, _), (2, _), (1, _), (0, _)]) dX13_findSides_203 (Nat.le_of_ble_eq_true rfl) rfl ?_
              refine v_aload_n dX13_findSides_205 rfl 7 rfl ?_
              refine v_getf 47 (ci := 11) (C := RX13) (T := TX13) (N := 71) rfl iwX13_findSides_X13 (Nat.le_of_ble_eq_true rfl) (by decide +kernel) dX13_findSides_206 (by repeat (first | with_reducible assumption | (with_reducible refine sv_us.trans ?_; exact rfl) | with_reducible refine (sv_un (by omega)).trans ?_)) (by repeat (first | with_reducible assumption | (with_reducible refine (sv_ls (by first | omega | (simp only [List.length_set]; omega))).trans ?_; exact rfl) | with_reducible refine (List.getElem?_set_ne (by decide)).trans ?_)) ?_
              refine v_iload dX13_findSides_209 2 rfl ?_
              refine v_lload_n dX13_findSides_211 rfl 5 rfl ?_
              refine v_lconst (v := 0) dX13_findSides_212 (by decide) ?_
              refine v_lcmp_le (tgt := 222) dX13_findSides_213 dX13_findSides_214 (by decide) (fun c_214 => ?_) (fun c_214 => ?_)
              · refine v_iload dX13_findSides_222 0 rfl ?_
                refine v_iconst (v := 2) dX13_findSides_224 (by decide) ?_
                refine v_iadd dX13_findSides_225 ?_
                refine v_iconst (v := 4) dX13_findSides_226 (by decide) ?_
                refine v_irem dX13_findSides_227 (by decide) ?_
                refine v_iast dX13_findSides_228 (by repeat (first | with_reducible assumption | (with_reducible refine sv_us.trans ?_; exact rfl) | with_reducible refine (sv_un (by omega)).trans ?_)) (vp_in_nI (by omega) (by omega)) ?_
                refine v_aload_n dX13_findSides_229 rfl 7 rfl ?_
                refine v_getf 48 (ci := 11) (C := RX13) (T := TX13) (N := 71) rfl iwX13_findSides_X13 (Nat.le_of_ble_eq_true rfl) (by decide +kernel) dX13_findSides_230 (by repeat (first | with_reducible assumption | (with_reducible refine sv_us.trans ?_; exact rfl) | with_reducible refine (sv_un (by omega)).trans ?_)) (by repeat (first | with_reducible assumption | (with_reducible refine (sv_ls (by first | omega | (simp only [List.length_set]; omega))).trans ?_; exact rfl) | with_reducible refine (List.getElem?_set_ne (by decide)).trans ?_)) ?_
                refine v_iload dX13_findSides_233 2 rfl ?_
                refine v_iload dX13_findSides_235 1 rfl ?_
                refine v_if_eq (tgt := 250) dX13_findSides_237 (by decide) (fun c_237 => ?_) (fun c_237 => ?_)
                · refine v_aload_n dX13_findSides_250 rfl 7 rfl ?_
                  refine v_getf 45 (ci := 11) (C := RX13) (T := TX13) (N := 71) rfl iwX13_findSides_X13 (Nat.le_of_ble_eq_true rfl) (by decide +kernel) dX13_findSides_251 (by repeat (first | with_reducible assumption | (with_reducible refine sv_us.trans ?_; exact rfl) | with_reducible refine (sv_un (by omega)).trans ?_)) (by repeat (first | with_reducible assumption | (with_reducible refine (sv_ls (by first | omega | (simp only [List.length_set]; omega))).trans ?_; exact rfl) | with_reducible refine (List.getElem?_set_ne (by decide)).trans ?_)) ?_
                  refine v_iload dX13_findSides_254 3 rfl ?_
                  refine v_laldS (v := jN (C k).2) dX13_findSides_256 (by repeat (first | with_reducible assumption | (with_reducible refine sv_us.trans ?_; exact rfl) | with_reducible refine (sv_un (by omega)).trans ?_)) (vp_in_nI (by omega) (by omega)) (by rw [nI_clamp (by omega)]; exact hgy k (by omega)) ?_
                  refine v_last dX13_findSides_257 (by repeat (first | with_reducible assumption | (with_reducible refine sv_us.trans ?_; exact rfl) | with_reducible refine (sv_un (by omega)).trans ?_)) (vp_in_nI (by omega) (by omega)) ?_
                  refine v_aload_n dX13_findSides_258 rfl 7 rfl ?_
                  refine v_getf 49 (ci := 11) (C := RX13) (T := TX13) (N := 71) rfl iwX13_findSides_X13 (Nat.le_of_ble_eq_true rfl) (by decide +kernel) dX13_findSides_259 (by repeat (first | with_reducible assumption | (with_reducible refine sv_us.trans ?_; exact rfl) | with_reducible refine (sv_un (by omega)).trans ?_)) (by repeat (first | with_reducible assumption | (with_reducible refine (sv_ls (by first | omega | (simp only [List.length_set]; omega))).trans ?_; exact rfl) | with_reducible refine (List.getElem?_set_ne (by decide)).trans ?_)) ?_
                  refine v_iload dX13_findSides_262 2 rfl ?_
                  refine v_iload dX13_findSides_264 1 rfl ?_
                  refine v_if_eq (tgt := 291) dX13_findSides_266 (by decide) (fun c_266 => ?_) (fun c_266 => ?_)
                  · refine v_aload_n dX13_findSides_291 rfl 7 rfl ?_
                    refine v_getf 44 (ci := 11) (C := RX13) (T := TX13) (N := 71) rfl iwX13_findSides_X13 (Nat.le_of_ble_eq_true rfl) (by decide +kernel) dX13_findSides_292 (by repeat (first | with_reducible assumption | (with_reducible refine sv_us.trans ?_; exact rfl) | with_reducible refine (sv_un (by omega)).trans ?_)) (by repeat (first | with_reducible assumption | (with_reducible refine (sv_ls (by first | omega | (simp only [List.length_set]; omega))).trans ?_; exact rfl) | with_reducible refine (List.getElem?_set_ne (by decide)).trans ?_)) ?_
                    refine v_iload dX13_findSides_295 3 rfl ?_
                    refine v_laldS (v := jN (C k).1) dX13_findSides_297 (by repeat (first | with_reducible assumption | (with_reducible refine sv_us.trans ?_; exact rfl) | with_reducible refine (sv_un (by omega)).trans ?_)) (vp_in_nI (by omega) (by omega)) (by rw [nI_clamp (by omega)]; exact hgx k (by omega)) ?_
                    refine v_aload_n dX13_findSides_298 rfl 7 rfl ?_
                    refine v_getf 44 (ci := 11) (C := RX13) (T := TX13) (N := 71) rfl iwX13_findSides_X13 (Nat.le_of_ble_eq_true rfl) (by decide +kernel) dX13_findSides_299 (by repeat (first | with_reducible assumption | (with_reducible refine sv_us.trans ?_; exact rfl) | with_reducible refine (sv_un (by omega)).trans ?_)) (by repeat (first | with_reducible assumption | (with_reducible refine (sv_ls (by first | omega | (simp only [List.length_set]; omega))).trans ?_; exact rfl) | with_reducible refine (List.getElem?_set_ne (by decide)).trans ?_)) ?_
                    refine v_iload dX13_findSides_302 3 rfl ?_
                    refine v_iconst (v := 1) dX13_findSides_304 (by decide) ?_
                    refine v_iadd dX13_findSides_305 ?_
                    rw [nI_1]
                    refine v_laldS (v := jN (C (k + 1)).1) dX13_findSides_306 (by repeat (first | with_reducible assumption | (with_reducible refine sv_us.trans ?_; exact rfl) | with_reducible refine (sv_un (by omega)).trans ?_)) (vp_in_nI (by omega) (by omega)) (by rw [nI_clamp (by omega)]; exact hgx (k + 1) (by omega)) ?_
                    refine v_callSq (M' := mX13_least) (n := 2) (As := [_, _]) ggX13_findSides_X13_least (by decide +kernel) (by decide +kernel) (by decide +kernel) rfl (by decide +kernel) ⟨(Nat.le_of_ble_eq_true rfl), (Nat.le_of_ble_eq_true rfl)⟩ dX13_findSides_307 rfl ⟨(Nat.le_of_ble_eq_true rfl), (Nat.le_of_ble_eq_true rfl)⟩ (Nat.le_of_ble_eq_true rfl) rfl (m_leastI G _ _ ck.1 cn.1) (fun v9 h9 y9 hq => v_pq hq ?_)
                    refine v_last dX13_findSides_310 (by repeat (first | with_reducible assumption | (with_reducible refine sv_us.trans ?_; exact rfl) | with_reducible refine (sv_un (by omega)).trans ?_)) (vp_in_nI (by omega) (by omega)) ?_
                    refine v_aload_n dX13_findSides_311 rfl 7 rfl ?_
                    refine v_getf 50 (ci := 11) (C := RX13) (T := TX13) (N := 71) rfl iwX13_findSides_X13 (Nat.le_of_ble_eq_true rfl) (by decide +kernel) dX13_findSides_312 (by repeat (first | with_reducible assumption | (with_reducible refine sv_us.trans ?_; exact rfl) | with_reducible refine (sv_un (by omega)).trans ?_)) (by repeat (first | with_reducible assumption | (with_reducible refine (sv_ls (by first | omega | (simp only [List.length_set]; omega))).trans ?_; exact rfl) | with_reducible refine (List.getElem?_set_ne (by decide)).trans ?_)) ?_
                    refine v_iload dX13_findSides_315 2 rfl ?_
                    refine v_iload dX13_findSides_317 1 rfl ?_
                    refine v_if_eq (tgt := 344) dX13_findSides_319 (by decide) (fun c_319 => ?_) (fun c_319 => ?_)
                    · refine v_aload_n dX13_findSides_344 rfl 7 rfl ?_
                      refine v_getf 44 (ci := 11) (C := RX13) (T := TX13) (N := 71) rfl iwX13_findSides_X13 (Nat.le_of_ble_eq_true rfl) (by decide +kernel) dX13_findSides_345 (by repeat (first | with_reducible assumption | (with_reducible refine sv_us.trans ?_; exact rfl) | with_reducible refine (sv_un (by omega)).trans ?_)) (by repeat (first | with_reducible assumption | (with_reducible refine (sv_ls (by first | omega | (simp only [List.length_set]; omega))).trans ?_; exact rfl) | with_reducible refine (List.getElem?_set_ne (by decide)).trans ?_)) ?_
                      refine v_iload dX13_findSides_348 3 rfl ?_
                      refine v_laldS (v := jN (C k).1) dX13_findSides_350 (by repeat (first | with_reducible assumption | (with_reducible refine sv_us.trans ?_; exact rfl) | with_reducible refine (sv_un (by omega)).trans ?_)) (vp_in_nI (by omega) (by omega)) (by rw [nI_clamp (by omega)]; exact hgx k (by omega)) ?_
                      refine v_aload_n dX13_findSides_351 rfl 7 rfl ?_
                      refine v_getf 44 (ci := 11) (C := RX13) (T := TX13) (N := 71) rfl iwX13_findSides_X13 (Nat.le_of_ble_eq_true rfl) (by decide +kernel) dX13_findSides_352 (by repeat (first | with_reducible assumption | (with_reducible refine sv_us.trans ?_; exact rfl) | with_reducible refine (sv_un (by omega)).trans ?_)) (by repeat (first | with_reducible assumption | (with_reducible refine (sv_ls (by first | omega | (simp only [List.length_set]; omega))).trans ?_; exact rfl) | with_reducible refine (List.getElem?_set_ne (by decide)).trans ?_)) ?_
                      refine v_iload dX13_findSides_355 3 rfl ?_
                      refine v_iconst (v := 1) dX13_findSides_357 (by decide) ?_
                      refine v_iadd dX13_findSides_358 ?_
                      rw [nI_1]
                      refine v_laldS (v := jN (C (k + 1)).1) dX13_findSides_359 (by repeat (first | with_reducible assumption | (with_reducible refine sv_us.trans ?_; exact rfl) | with_reducible refine (sv_un (by omega)).trans ?_)) (vp_in_nI (by omega) (by omega)) (by rw [nI_clamp (by omega)]; exact hgx (k + 1) (by omega)) ?_
                      refine v_callSq (M' := mX13_most) (n := 2) (As := [_, _]) ggX13_findSides_X13_most (by decide +kernel) (by decide +kernel) (by decide +kernel) rfl (by decide +kernel) ⟨(Nat.le_of_ble_eq_true rfl), (Nat.le_of_ble_eq_true rfl)⟩ dX13_findSides_360 rfl ⟨(Nat.le_of_ble_eq_true rfl), (Nat.le_of_ble_eq_true rfl)⟩ (Nat.le_of_ble_eq_true rfl) rfl (m_mostI G _ _ ck.1 cn.1) (fun v9 h9 y9 hq => v_pq hq ?_)
                      refine v_last dX13_findSides_363 (by repeat (first | with_reducible assumption | (with_reducible refine sv_us.trans ?_; exact rfl) | with_reducible refine (sv_un (by omega)).trans ?_)) (vp_in_nI (by omega) (by omega)) ?_
                      refine v_iinc (j := 4) (L' := [(4, _), (8, _), (7, _), (6, _), (5, _), (2, _), (1, _), (0, _)]) (v := nI (k + 1)) dX13_findSides_364 rfl (nI_1 _) (Nat.le_of_ble_eq_true rfl) rfl ?_
                      refine v_goto (tgt := 89) dX13_findSides_367 (by decide) ?_
                      refine v_sub (L' := [(4, _), (2, _), (1, _), (0, _)]) [0, 5, 6, 7] rfl ?_
                      rw [nI_clamp (show 16 * w + k < 2 ^ 31 by omega)]
                      have hit : itM C k = ((C k).2, min (C k).1 (C (k + 1)).1, max (C k).1 (C (k + 1)).1) := if_neg hst
                      have ht : toM C k = (if (C k).1 < (C (k + 1)).1 then 3 else 1) := if_neg hst
                      refine ih (k + 1) (upd ff (16 * w + k) _) (vp_updL gp (16 * w + k) _) (vp_updL gl (16 * w + k) _) (vp_updL gh (16 * w + k) _) _ (by omega) ((sv_un (by omega)).trans ((sv_un (by omega)).trans ((sv_un (by omega)).trans sv_us))) ((sv_un (by omega)).trans ((sv_un (by omega)).trans sv_us)) ((sv_un (by omega)).trans sv_us) sv_us (fun i hi => ?_) (fun a p => ?_) (fun a p => (sv_un (by omega)).trans ((sv_un (by omega)).trans ((sv_un (by omega)).trans ((sv_un (by omega)).trans (fr a p)))))
                      · by_cases e9 : i = k
                        · subst e9
                          rw [hit]
                          refine ⟨(if_pos rfl).trans ?_, pk_uLs, pk_uLs, pk_uLs⟩
                          unfold fcM
                          rw [ht]
                          first
                            | (have c9 : jN (twS C n) ≤ 0 := c_214
                               rw [Int64.le_iff_toInt_le, jN_to (by omega) (by omega)] at c9
                               have c7 : twS C n ≤ 0 := c9
                               rw [if_neg (Int.not_lt.mpr c7)]
                               first
                                 | (have c8 : jN _ ≤ jN _ := c_195
                                    rw [jN_le (by omega) (by omega) (by omega) (by omega)] at c8
                                    rw [if_neg (Int.not_lt.mpr c8)]
                                    decide)
                                 | (have c8 := Int64.not_le.mp c_195
                                    rw [jN_lt (by omega) (by omega) (by omega) (by omega)] at c8
                                    rw [if_pos c8]
                                    decide))
                            | (have c9 := Int64.not_le.mp c_214
                               rw [Int64.lt_iff_toInt_lt, jN_to (by omega) (by omega)] at c9
                               have c7 : 0 < twS C n := c9
                               rw [if_pos c7]
                               first
                                 | (have c8 : jN _ ≤ jN _ := c_195
                                    rw [jN_le (by omega) (by omega) (by omega) (by omega)] at c8
                                    rw [if_neg (Int.not_lt.mpr c8)]
                                    rfl)
                                 | (have c8 := Int64.not_le.mp c_195
                                    rw [jN_lt (by omega) (by omega) (by omega) (by omega)] at c8
                                    rw [if_pos c8]
                                    rfl))
                        · obtain ⟨r1, r2, r3, r4⟩ := a5 i (by omega)
                          exact ⟨(if_neg (by omega)).trans r1, (pk_uLn (by omega)).trans r2, (pk_uLn (by omega)).trans r3, (pk_uLn (by omega)).trans r4⟩
                      · obtain ⟨r1, r2, r3, r4⟩ := a6 a p
                        exact ⟨(if_neg (by omega)).trans r1, (pk_uLn (by omega)).trans r2, (pk_uLn (by omega)).trans r3, (pk_uLn (by omega)).trans r4⟩
                    · exact absurd rfl c_319
                  · exact absurd rfl c_266
                · exact absurd rfl c_237
              · refine v_iload dX13_findSides_217 0 rfl ?_
                refine v_goto (tgt := 228) dX13_findSides_219 (by decide) ?_
                refine v_iast dX13_findSides_228 (by repeat (first | with_reducible assumption | (with_reducible refine sv_us.trans ?_; exact rfl) | with_reducible refine (sv_un (by omega)).trans ?_)) (vp_in_nI (by omega) (by omega)) ?_
                refine v_aload_n dX13_findSides_229 rfl 7 rfl ?_
                refine v_getf 48 (ci := 11) (C := RX13) (T := TX13) (N := 71) rfl iwX13_findSides_X13 (Nat.le_of_ble_eq_true rfl) (by decide +kernel) dX13_findSides_230 (by repeat (first | with_reducible assumption | (with_reducible refine sv_us.trans ?_; exact rfl) | with_reducible refine (sv_un (by omega)).trans ?_)) (by repeat (first | with_reducible assumption | (with_reducible refine (sv_ls (by first | omega | (simp only [List.length_set]; omega))).trans ?_; exact rfl) | with_reducible refine (List.getElem?_set_ne (by decide)).trans ?_)) ?_
                refine v_iload dX13_findSides_233 2 rfl ?_
                refine v_iload dX13_findSides_235 1 rfl ?_
                refine v_if_eq (tgt := 250) dX13_findSides_237 (by decide) (fun c_237 => ?_) (fun c_237 => ?_)
                · refine v_aload_n dX13_findSides_250 rfl 7 rfl ?_
                  refine v_getf 45 (ci := 11) (C := RX13) (T := TX13) (N := 71) rfl iwX13_findSides_X13 (Nat.le_of_ble_eq_true rfl) (by decide +kernel) dX13_findSides_251 (by repeat (first | with_reducible assumption | (with_reducible refine sv_us.trans ?_; exact rfl) | with_reducible refine (sv_un (by omega)).trans ?_)) (by repeat (first | with_reducible assumption | (with_reducible refine (sv_ls (by first | omega | (simp only [List.length_set]; omega))).trans ?_; exact rfl) | with_reducible refine (List.getElem?_set_ne (by decide)).trans ?_)) ?_
                  refine v_iload dX13_findSides_254 3 rfl ?_
                  refine v_laldS (v := jN (C k).2) dX13_findSides_256 (by repeat (first | with_reducible assumption | (with_reducible refine sv_us.trans ?_; exact rfl) | with_reducible refine (sv_un (by omega)).trans ?_)) (vp_in_nI (by omega) (by omega)) (by rw [nI_clamp (by omega)]; exact hgy k (by omega)) ?_
                  refine v_last dX13_findSides_257 (by repeat (first | with_reducible assumption | (with_reducible refine sv_us.trans ?_; exact rfl) | with_reducible refine (sv_un (by omega)).trans ?_)) (vp_in_nI (by omega) (by omega)) ?_
                  refine v_aload_n dX13_findSides_258 rfl 7 rfl ?_
                  refine v_getf 49 (ci := 11) (C := RX13) (T := TX13) (N := 71) rfl iwX13_findSides_X13 (Nat.le_of_ble_eq_true rfl) (by decide +kernel) dX13_findSides_259 (by repeat (first | with_reducible assumption | (with_reducible refine sv_us.trans ?_; exact rfl) | with_reducible refine (sv_un (by omega)).trans ?_)) (by repeat (first | with_reducible assumption | (with_reducible refine (sv_ls (by first | omega | (simp only [List.length_set]; omega))).trans ?_; exact rfl) | with_reducible refine (List.getElem?_set_ne (by decide)).trans ?_)) ?_
                  refine v_iload dX13_findSides_262 2 rfl ?_
                  refine v_iload dX13_findSides_264 1 rfl ?_
                  refine v_if_eq (tgt := 291) dX13_findSides_266 (by decide) (fun c_266 => ?_) (fun c_266 => ?_)
                  · refine v_aload_n dX13_findSides_291 rfl 7 rfl ?_
                    refine v_getf 44 (ci := 11) (C := RX13) (T := TX13) (N := 71) rfl iwX13_findSides_X13 (Nat.le_of_ble_eq_true rfl) (by decide +kernel) dX13_findSides_292 (by repeat (first | with_reducible assumption | (with_reducible refine sv_us.trans ?_; exact rfl) | with_reducible refine (sv_un (by omega)).trans ?_)) (by repeat (first | with_reducible assumption | (with_reducible refine (sv_ls (by first | omega | (simp only [List.length_set]; omega))).trans ?_; exact rfl) | with_reducible refine (List.getElem?_set_ne (by decide)).trans ?_)) ?_
                    refine v_iload dX13_findSides_295 3 rfl ?_
                    refine v_laldS (v := jN (C k).1) dX13_findSides_297 (by repeat (first | with_reducible assumption | (with_reducible refine sv_us.trans ?_; exact rfl) | with_reducible refine (sv_un (by omega)).trans ?_)) (vp_in_nI (by omega) (by omega)) (by rw [nI_clamp (by omega)]; exact hgx k (by omega)) ?_
                    refine v_aload_n dX13_findSides_298 rfl 7 rfl ?_
                    refine v_getf 44 (ci := 11) (C := RX13) (T := TX13) (N := 71) rfl iwX13_findSides_X13 (Nat.le_of_ble_eq_true rfl) (by decide +kernel) dX13_findSides_299 (by repeat (first | with_reducible assumption | (with_reducible refine sv_us.trans ?_; exact rfl) | with_reducible refine (sv_un (by omega)).trans ?_)) (by repeat (first | with_reducible assumption | (with_reducible refine (sv_ls (by first | omega | (simp only [List.length_set]; omega))).trans ?_; exact rfl) | with_reducible refine (List.getElem?_set_ne (by decide)).trans ?_)) ?_
                    refine v_iload dX13_findSides_302 3 rfl ?_
                    refine v_iconst (v := 1) dX13_findSides_304 (by decide) ?_
                    refine v_iadd dX13_findSides_305 ?_
                    rw [nI_1]
                    refine v_laldS (v := jN (C (k + 1)).1) dX13_findSides_306 (by repeat (first | with_reducible assumption | (with_reducible refine sv_us.trans ?_; exact rfl) | with_reducible refine (sv_un (by omega)).trans ?_)) (vp_in_nI (by omega) (by omega)) (by rw [nI_clamp (by omega)]; exact hgx (k + 1) (by omega)) ?_
                    refine v_callSq (M' := mX13_least) (n := 2) (As := [_, _]) ggX13_findSides_X13_least (by decide +kernel) (by decide +kernel) (by decide +kernel) rfl (by decide +kernel) ⟨(Nat.le_of_ble_eq_true rfl), (Nat.le_of_ble_eq_true rfl)⟩ dX13_findSides_307 rfl ⟨(Nat.le_of_ble_eq_true rfl), (Nat.le_of_ble_eq_true rfl)⟩ (Nat.le_of_ble_eq_true rfl) rfl (m_leastI G _ _ ck.1 cn.1) (fun v9 h9 y9 hq => v_pq hq ?_)
                    refine v_last dX13_findSides_310 (by repeat (first | with_reducible assumption | (with_reducible refine sv_us.trans ?_; exact rfl) | with_reducible refine (sv_un (by omega)).trans ?_)) (vp_in_nI (by omega) (by omega)) ?_
                    refine v_aload_n dX13_findSides_311 rfl 7 rfl ?_
                    refine v_getf 50 (ci := 11) (C := RX13) (T := TX13) (N := 71) rfl iwX13_findSides_X13 (Nat.le_of_ble_eq_true rfl) (by decide +kernel) dX13_findSides_312 (by repeat (first | with_reducible assumption | (with_reducible refine sv_us.trans ?_; exact rfl) | with_reducible refine (sv_un (by omega)).trans ?_)) (by repeat (first | with_reducible assumption | (with_reducible refine (sv_ls (by first | omega | (simp only [List.length_set]; omega))).trans ?_; exact rfl) | with_reducible refine (List.getElem?_set_ne (by decide)).trans ?_)) ?_
                    refine v_iload dX13_findSides_315 2 rfl ?_
                    refine v_iload dX13_findSides_317 1 rfl ?_
                    refine v_if_eq (tgt := 344) dX13_findSides_319 (by decide) (fun c_319 => ?_) (fun c_319 => ?_)
                    · refine v_aload_n dX13_findSides_344 rfl 7 rfl ?_
                      refine v_getf 44 (ci := 11) (C := RX13) (T := TX13) (N := 71) rfl iwX13_findSides_X13 (Nat.le_of_ble_eq_true rfl) (by decide +kernel) dX13_findSides_345 (by repeat (first | with_reducible assumption | (with_reducible refine sv_us.trans ?_; exact rfl) | with_reducible refine (sv_un (by omega)).trans ?_)) (by repeat (first | with_reducible assumption | (with_reducible refine (sv_ls (by first | omega | (simp only [List.length_set]; omega))).trans ?_; exact rfl) | with_reducible refine (List.getElem?_set_ne (by decide)).trans ?_)) ?_
                      refine v_iload dX13_findSides_348 3 rfl ?_
                      refine v_laldS (v := jN (C k).1) dX13_findSides_350 (by repeat (first | with_reducible assumption | (with_reducible refine sv_us.trans ?_; exact rfl) | with_reducible refine (sv_un (by omega)).trans ?_)) (vp_in_nI (by omega) (by omega)) (by rw [nI_clamp (by omega)]; exact hgx k (by omega)) ?_
                      refine v_aload_n dX13_findSides_351 rfl 7 rfl ?_
                      refine v_getf 44 (ci := 11) (C := RX13) (T := TX13) (N := 71) rfl iwX13_findSides_X13 (Nat.le_of_ble_eq_true rfl) (by decide +kernel) dX13_findSides_352 (by repeat (first | with_reducible assumption | (with_reducible refine sv_us.trans ?_; exact rfl) | with_reducible refine (sv_un (by omega)).trans ?_)) (by repeat (first | with_reducible assumption | (with_reducible refine (sv_ls (by first | omega | (simp only [List.length_set]; omega))).trans ?_; exact rfl) | with_reducible refine (List.getElem?_set_ne (by decide)).trans ?_)) ?_
                      refine v_iload dX13_findSides_355 3 rfl ?_
                      refine v_iconst (v := 1) dX13_findSides_357 (by decide) ?_
                      refine v_iadd dX13_findSides_358 ?_
                      rw [nI_1]
                      refine v_laldS (v := jN (C (k + 1)).1) dX13_findSides_359 (by repeat (first | with_reducible assumption | (with_reducible refine sv_us.trans ?_; exact rfl) | with_reducible refine (sv_un (by omega)).trans ?_)) (vp_in_nI (by omega) (by omega)) (by rw [nI_clamp (by omega)]; exact hgx (k + 1) (by omega)) ?_
                      refine v_callSq (M' := mX13_most) (n := 2) (As := [_, _]) ggX13_findSides_X13_most (by decide +kernel) (by decide +kernel) (by decide +kernel) rfl (by decide +kernel) ⟨(Nat.le_of_ble_eq_true rfl), (Nat.le_of_ble_eq_true rfl)⟩ dX13_findSides_360 rfl ⟨(Nat.le_of_ble_eq_true rfl), (Nat.le_of_ble_eq_true rfl)⟩ (Nat.le_of_ble_eq_true rfl) rfl (m_mostI G _ _ ck.1 cn.1) (fun v9 h9 y9 hq => v_pq hq ?_)
                      refine v_last dX13_findSides_363 (by repeat (first | with_reducible assumption | (with_reducible refine sv_us.trans ?_; exact rfl) | with_reducible refine (sv_un (by omega)).trans ?_)) (vp_in_nI (by omega) (by omega)) ?_
                      refine v_iinc (j := 4) (L' := [(4, _), (8, _), (7, _), (6, _), (5, _), (2, _), (1, _), (0, _)]) (v := nI (k + 1)) dX13_findSides_364 rfl (nI_1 _) (Nat.le_of_ble_eq_true rfl) rfl ?_
                      refine v_goto (tgt := 89) dX13_findSides_367 (by decide) ?_
                      refine v_sub (L' := [(4, _), (2, _), (1, _), (0, _)]) [0, 5, 6, 7] rfl ?_
                      rw [nI_clamp (show 16 * w + k < 2 ^ 31 by omega)]
                      have hit : itM C k = ((C k).2, min (C k).1 (C (k + 1)).1, max (C k).1 (C (k + 1)).1) := if_neg hst
                      have ht : toM C k = (if (C k).1 < (C (k + 1)).1 then 3 else 1) := if_neg hst
                      refine ih (k + 1) (upd ff (16 * w + k) _) (vp_updL gp (16 * w + k) _) (vp_updL gl (16 * w + k) _) (vp_updL gh (16 * w + k) _) _ (by omega) ((sv_un (by omega)).trans ((sv_un (by omega)).trans ((sv_un (by omega)).trans sv_us))) ((sv_un (by omega)).trans ((sv_un (by omega)).trans sv_us)) ((sv_un (by omega)).trans sv_us) sv_us (fun i hi => ?_) (fun a p => ?_) (fun a p => (sv_un (by omega)).trans ((sv_un (by omega)).trans ((sv_un (by omega)).trans ((sv_un (by omega)).trans (fr a p)))))
                      · by_cases e9 : i = k
                        · subst e9
                          rw [hit]
                          refine ⟨(if_pos rfl).trans ?_, pk_uLs, pk_uLs, pk_uLs⟩
                          unfold fcM
                          rw [ht]
                          first
                            | (have c9 : jN (twS C n) ≤ 0 := c_214
                               rw [Int64.le_iff_toInt_le, jN_to (by omega) (by omega)] at c9
                               have c7 : twS C n ≤ 0 := c9
                               rw [if_neg (Int.not_lt.mpr c7)]
                               first
                                 | (have c8 : jN _ ≤ jN _ := c_195
                                    rw [jN_le (by omega) (by omega) (by omega) (by omega)] at c8
                                    rw [if_neg (Int.not_lt.mpr c8)]
                                    decide)
                                 | (have c8 := Int64.not_le.mp c_195
                                    rw [jN_lt (by omega) (by omega) (by omega) (by omega)] at c8
                                    rw [if_pos c8]
                                    decide))
                            | (have c9 := Int64.not_le.mp c_214
                               rw [Int64.lt_iff_toInt_lt, jN_to (by omega) (by omega)] at c9
                               have c7 : 0 < twS C n := c9
                               rw [if_pos c7]
                               first
                                 | (have c8 : jN _ ≤ jN _ := c_195
                                    rw [jN_le (by omega) (by omega) (by omega) (by omega)] at c8
                                    rw [if_neg (Int.not_lt.mpr c8)]
                                    rfl)
                                 | (have c8 := Int64.not_le.mp c_195
                                    rw [jN_lt (by omega) (by omega) (by omega) (by omega)] at c8
                                    rw [if_pos c8]
                                    rfl))
                        · obtain ⟨r1, r2, r3, r4⟩ := a5 i (by omega)
                          exact ⟨(if_neg (by omega)).trans r1, (pk_uLn (by omega)).trans r2, (pk_uLn (by omega)).trans r3, (pk_uLn (by omega)).trans r4⟩
                      · obtain ⟨r1, r2, r3, r4⟩ := a6 a p
                        exact ⟨(if_neg (by omega)).trans r1, (pk_uLn (by omega)).trans r2, (pk_uLn (by omega)).trans r3, (pk_uLn (by omega)).trans r4⟩
                    · exact absurd rfl c_319
                  · exact absurd rfl c_266
                · exact absurd rfl c_237
            · refine v_iconst (v := 3) dX13_findSides_198 (by decide) ?_
              refine v_goto (tgt := 203) dX13_findSides_199 (by decide) ?_
              refine v_istore (L' := [(8, _), (7, _), (6, _), (5, _), (4, _), (2, _), (1, _), (0, _)]) dX13_findSides_203 (Nat.le_of_ble_eq_true rfl) rfl ?_
              refine v_aload_n dX13_findSides_205 rfl 7 rfl ?_
              refine v_getf 47 (ci := 11) (C := RX13) (T := TX13) (N := 71) rfl iwX13_findSides_X13 (Nat.le_of_ble_eq_true rfl) (by decide +kernel) dX13_findSides_206 (by repeat (first | with_reducible assumption | (with_reducible refine sv_us.trans ?_; exact rfl) | with_reducible refine (sv_un (by omega)).trans ?_)) (by repeat (first | with_reducible assumption | (with_reducible refine (sv_ls (by first | omega | (simp only [List.length_set]; omega))).trans ?_; exact rfl) | with_reducible refine (List.getElem?_set_ne (by decide)).trans ?_)) ?_
              refine v_iload dX13_findSides_209 2 rfl ?_
              refine v_lload_n dX13_findSides_211 rfl 5 rfl ?_
              refine v_lconst (v := 0) dX13_findSides_212 (by decide) ?_
              refine v_lcmp_le (tgt := 222) dX13_findSides_213 dX13_findSides_214 (by decide) (fun c_214 => ?_) (fun c_214 => ?_)
              · refine v_iload dX13_findSides_222 0 rfl ?_
                refine v_iconst (v := 2) dX13_findSides_224 (by decide) ?_
                refine v_iadd dX13_findSides_225 ?_
                refine v_iconst (v := 4) dX13_findSides_226 (by decide) ?_
                refine v_irem dX13_findSides_227 (by decide) ?_
                refine v_iast dX13_findSides_228 (by repeat (first | with_reducible assumption | (with_reducible refine sv_us.trans ?_; exact rfl) | with_reducible refine (sv_un (by omega)).trans ?_)) (vp_in_nI (by omega) (by omega)) ?_
                refine v_aload_n dX13_findSides_229 rfl 7 rfl ?_
                refine v_getf 48 (ci := 11) (C := RX13) (T := TX13) (N := 71) rfl iwX13_findSides_X13 (Nat.le_of_ble_eq_true rfl) (by decide +kernel) dX13_findSides_230 (by repeat (first | with_reducible assumption | (with_reducible refine sv_us.trans ?_; exact rfl) | with_reducible refine (sv_un (by omega)).trans ?_)) (by repeat (first | with_reducible assumption | (with_reducible refine (sv_ls (by first | omega | (simp only [List.length_set]; omega))).trans ?_; exact rfl) | with_reducible refine (List.getElem?_set_ne (by decide)).trans ?_)) ?_
                refine v_iload dX13_findSides_233 2 rfl ?_
                refine v_iload dX13_findSides_235 1 rfl ?_
                refine v_if_eq (tgt := 250) dX13_findSides_237 (by decide) (fun c_237 => ?_) (fun c_237 => ?_)
                · refine v_aload_n dX13_findSides_250 rfl 7 rfl ?_
                  refine v_getf 45 (ci := 11) (C := RX13) (T := TX13) (N := 71) rfl iwX13_findSides_X13 (Nat.le_of_ble_eq_true rfl) (by decide +kernel) dX13_findSides_251 (by repeat (first | with_reducible assumption | (with_reducible refine sv_us.trans ?_; exact rfl) | with_reducible refine (sv_un (by omega)).trans ?_)) (by repeat (first | with_reducible assumption | (with_reducible refine (sv_ls (by first | omega | (simp only [List.length_set]; omega))).trans ?_; exact rfl) | with_reducible refine (List.getElem?_set_ne (by decide)).trans ?_)) ?_
                  refine v_iload dX13_findSides_254 3 rfl ?_
                  refine v_laldS (v := jN (C k).2) dX13_findSides_256 (by repeat (first | with_reducible assumption | (with_reducible refine sv_us.trans ?_; exact rfl) | with_reducible refine (sv_un (by omega)).trans ?_)) (vp_in_nI (by omega) (by omega)) (by rw [nI_clamp (by omega)]; exact hgy k (by omega)) ?_
                  refine v_last dX13_findSides_257 (by repeat (first | with_reducible assumption | (with_reducible refine sv_us.trans ?_; exact rfl) | with_reducible refine (sv_un (by omega)).trans ?_)) (vp_in_nI (by omega) (by omega)) ?_
                  refine v_aload_n dX13_findSides_258 rfl 7 rfl ?_
                  refine v_getf 49 (ci := 11) (C := RX13) (T := TX13) (N := 71) rfl iwX13_findSides_X13 (Nat.le_of_ble_eq_true rfl) (by decide +kernel) dX13_findSides_259 (by repeat (first | with_reducible assumption | (with_reducible refine sv_us.trans ?_; exact rfl) | with_reducible refine (sv_un (by omega)).trans ?_)) (by repeat (first | with_reducible assumption | (with_reducible refine (sv_ls (by first | omega | (simp only [List.length_set]; omega))).trans ?_; exact rfl) | with_reducible refine (List.getElem?_set_ne (by decide)).trans ?_)) ?_
                  refine v_iload dX13_findSides_262 2 rfl ?_
                  refine v_iload dX13_findSides_264 1 rfl ?_
                  refine v_if_eq (tgt := 291) dX13_findSides_266 (by decide) (fun c_266 => ?_) (fun c_266 => ?_)
                  · refine v_aload_n dX13_findSides_291 rfl 7 rfl ?_
                    refine v_getf 44 (ci := 11) (C := RX13) (T := TX13) (N := 71) rfl iwX13_findSides_X13 (Nat.le_of_ble_eq_true rfl) (by decide +kernel) dX13_findSides_292 (by repeat (first | with_reducible assumption | (with_reducible refine sv_us.trans ?_; exact rfl) | with_reducible refine (sv_un (by omega)).trans ?_)) (by repeat (first | with_reducible assumption | (with_reducible refine (sv_ls (by first | omega | (simp only [List.length_set]; omega))).trans ?_; exact rfl) | with_reducible refine (List.getElem?_set_ne (by decide)).trans ?_)) ?_
                    refine v_iload dX13_findSides_295 3 rfl ?_
                    refine v_laldS (v := jN (C k).1) dX13_findSides_297 (by repeat (first | with_reducible assumption | (with_reducible refine sv_us.trans ?_; exact rfl) | with_reducible refine (sv_un (by omega)).trans ?_)) (vp_in_nI (by omega) (by omega)) (by rw [nI_clamp (by omega)]; exact hgx k (by omega)) ?_
                    refine v_aload_n dX13_findSides_298 rfl 7 rfl ?_
                    refine v_getf 44 (ci := 11) (C := RX13) (T := TX13) (N := 71) rfl iwX13_findSides_X13 (Nat.le_of_ble_eq_true rfl) (by decide +kernel) dX13_findSides_299 (by repeat (first | with_reducible assumption | (with_reducible refine sv_us.trans ?_; exact rfl) | with_reducible refine (sv_un (by omega)).trans ?_)) (by repeat (first | with_reducible assumption | (with_reducible refine (sv_ls (by first | omega | (simp only [List.length_set]; omega))).trans ?_; exact rfl) | with_reducible refine (List.getElem?_set_ne (by decide)).trans ?_)) ?_
                    refine v_iload dX13_findSides_302 3 rfl ?_
                    refine v_iconst (v := 1) dX13_findSides_304 (by decide) ?_
                    refine v_iadd dX13_findSides_305 ?_
                    rw [nI_1]
                    refine v_laldS (v := jN (C (k + 1)).1) dX13_findSides_306 (by repeat (first | with_reducible assumption | (with_reducible refine sv_us.trans ?_; exact rfl) | with_reducible refine (sv_un (by omega)).trans ?_)) (vp_in_nI (by omega) (by omega)) (by rw [nI_clamp (by omega)]; exact hgx (k + 1) (by omega)) ?_
                    refine v_callSq (M' := mX13_least) (n := 2) (As := [_, _]) ggX13_findSides_X13_least (by decide +kernel) (by decide +kernel) (by decide +kernel) rfl (by decide +kernel) ⟨(Nat.le_of_ble_eq_true rfl), (Nat.le_of_ble_eq_true rfl)⟩ dX13_findSides_307 rfl ⟨(Nat.le_of_ble_eq_true rfl), (Nat.le_of_ble_eq_true rfl)⟩ (Nat.le_of_ble_eq_true rfl) rfl (m_leastI G _ _ ck.1 cn.1) (fun v9 h9 y9 hq => v_pq hq ?_)
                    refine v_last dX13_findSides_310 (by repeat (first | with_reducible assumption | (with_reducible refine sv_us.trans ?_; exact rfl) | with_reducible refine (sv_un (by omega)).trans ?_)) (vp_in_nI (by omega) (by omega)) ?_
                    refine v_aload_n dX13_findSides_311 rfl 7 rfl ?_
                    refine v_getf 50 (ci := 11) (C := RX13) (T := TX13) (N := 71) rfl iwX13_findSides_X13 (Nat.le_of_ble_eq_true rfl) (by decide +kernel) dX13_findSides_312 (by repeat (first | with_reducible assumption | (with_reducible refine sv_us.trans ?_; exact rfl) | with_reducible refine (sv_un (by omega)).trans ?_)) (by repeat (first | with_reducible assumption | (with_reducible refine (sv_ls (by first | omega | (simp only [List.length_set]; omega))).trans ?_; exact rfl) | with_reducible refine (List.getElem?_set_ne (by decide)).trans ?_)) ?_
                    refine v_iload dX13_findSides_315 2 rfl ?_
                    refine v_iload dX13_findSides_317 1 rfl ?_
                    refine v_if_eq (tgt := 344) dX13_findSides_319 (by decide) (fun c_319 => ?_) (fun c_319 => ?_)
                    · refine v_aload_n dX13_findSides_344 rfl 7 rfl ?_
                      refine v_getf 44 (ci := 11) (C := RX13) (T := TX13) (N := 71) rfl iwX13_findSides_X13 (Nat.le_of_ble_eq_true rfl) (by decide +kernel) dX13_findSides_345 (by repeat (first | with_reducible assumption | (with_reducible refine sv_us.trans ?_; exact rfl) | with_reducible refine (sv_un (by omega)).trans ?_)) (by repeat (first | with_reducible assumption | (with_reducible refine (sv_ls (by first | omega | (simp only [List.length_set]; omega))).trans ?_; exact rfl) | with_reducible refine (List.getElem?_set_ne (by decide)).trans ?_)) ?_
                      refine v_iload dX13_findSides_348 3 rfl ?_
                      refine v_laldS (v := jN (C k).1) dX13_findSides_350 (by repeat (first | with_reducible assumption | (with_reducible refine sv_us.trans ?_; exact rfl) | with_reducible refine (sv_un (by omega)).trans ?_)) (vp_in_nI (by omega) (by omega)) (by rw [nI_clamp (by omega)]; exact hgx k (by omega)) ?_
                      refine v_aload_n dX13_findSides_351 rfl 7 rfl ?_
                      refine v_getf 44 (ci := 11) (C := RX13) (T := TX13) (N := 71) rfl iwX13_findSides_X13 (Nat.le_of_ble_eq_true rfl) (by decide +kernel) dX13_findSides_352 (by repeat (first | with_reducible assumption | (with_reducible refine sv_us.trans ?_; exact rfl) | with_reducible refine (sv_un (by omega)).trans ?_)) (by repeat (first | with_reducible assumption | (with_reducible refine (sv_ls (by first | omega | (simp only [List.length_set]; omega))).trans ?_; exact rfl) | with_reducible refine (List.getElem?_set_ne (by decide)).trans ?_)) ?_
                      refine v_iload dX13_findSides_355 3 rfl ?_
                      refine v_iconst (v := 1) dX13_findSides_357 (by decide) ?_
                      refine v_iadd dX13_findSides_358 ?_
                      rw [nI_1]
                      refine v_laldS (v := jN (C (k + 1)).1) dX13_findSides_359 (by repeat (first | with_reducible assumption | (with_reducible refine sv_us.trans ?_; exact rfl) | with_reducible refine (sv_un (by omega)).trans ?_)) (vp_in_nI (by omega) (by omega)) (by rw [nI_clamp (by omega)]; exact hgx (k + 1) (by omega)) ?_
                      refine v_callSq (M' := mX13_most) (n := 2) (As := [_, _]) ggX13_findSides_X13_most (by decide +kernel) (by decide +kernel) (by decide +kernel) rfl (by decide +kernel) ⟨(Nat.le_of_ble_eq_true rfl), (Nat.le_of_ble_eq_true rfl)⟩ dX13_findSides_360 rfl ⟨(Nat.le_of_ble_eq_true rfl), (Nat.le_of_ble_eq_true rfl)⟩ (Nat.le_of_ble_eq_true rfl) rfl (m_mostI G _ _ ck.1 cn.1) (fun v9 h9 y9 hq => v_pq hq ?_)
                      refine v_last dX13_findSides_363 (by repeat (first | with_reducible assumption | (with_reducible refine sv_us.trans ?_; exact rfl) | with_reducible refine (sv_un (by omega)).trans ?_)) (vp_in_nI (by omega) (by omega)) ?_
                      refine v_iinc (j := 4) (L' := [(4, _), (8, _), (7, _), (6, _), (5, _), (2, _), (1, _), (0, _)]) (v := nI (k + 1)) dX13_findSides_364 rfl (nI_1 _) (Nat.le_of_ble_eq_true rfl) rfl ?_
                      refine v_goto (tgt := 89) dX13_findSides_367 (by decide) ?_
                      refine v_sub (L' := [(4, _), (2, _), (1, _), (0, _)]) [0, 5, 6, 7] rfl ?_
                      rw [nI_clamp (show 16 * w + k < 2 ^ 31 by omega)]
                      have hit : itM C k = ((C k).2, min (C k).1 (C (k + 1)).1, max (C k).1 (C (k + 1)).1) := if_neg hst
                      have ht : toM C k = (if (C k).1 < (C (k + 1)).1 then 3 else 1) := if_neg hst
                      refine ih (k + 1) (upd ff (16 * w + k) _) (vp_updL gp (16 * w + k) _) (vp_updL gl (16 * w + k) _) (vp_updL gh (16 * w + k) _) _ (by omega) ((sv_un (by omega)).trans ((sv_un (by omega)).trans ((sv_un (by omega)).trans sv_us))) ((sv_un (by omega)).trans ((sv_un (by omega)).trans sv_us)) ((sv_un (by omega)).trans sv_us) sv_us (fun i hi => ?_) (fun a p => ?_) (fun a p => (sv_un (by omega)).trans ((sv_un (by omega)).trans ((sv_un (by omega)).trans ((sv_un (by omega)).trans (fr a p)))))
                      · by_cases e9 : i = k
                        · subst e9
                          rw [hit]
                          refine ⟨(if_pos rfl).trans ?_, pk_uLs, pk_uLs, pk_uLs⟩
                          unfold fcM
                          rw [ht]
                          first
                            | (have c9 : jN (twS C n) ≤ 0 := c_214
                               rw [Int64.le_iff_toInt_le, jN_to (by omega) (by omega)] at c9
                               have c7 : twS C n ≤ 0 := c9
                               rw [if_neg (Int.not_lt.mpr c7)]
                               first
                                 | (have c8 : jN _ ≤ jN _ := c_195
                                    rw [jN_le (by omega) (by omega) (by omega) (by omega)] at c8
                                    rw [if_neg (Int.not_lt.mpr c8)]
                                    decide)
                                 | (have c8 := Int64.not_le.mp c_195
                                    rw [jN_lt (by omega) (by omega) (by omega) (by omega)] at c8
                                    rw [if_pos c8]
                                    decide))
                            | (have c9 := Int64.not_le.mp c_214
                               rw [Int64.lt_iff_toInt_lt, jN_to (by omega) (by omega)] at c9
                               have c7 : 0 < twS C n := c9
                               rw [if_pos c7]
                               first
                                 | (have c8 : jN _ ≤ jN _ := c_195
                                    rw [jN_le (by omega) (by omega) (by omega) (by omega)] at c8
                                    rw [if_neg (Int.not_lt.mpr c8)]
                                    rfl)
                                 | (have c8 := Int64.not_le.mp c_195
                                    rw [jN_lt (by omega) (by omega) (by omega) (by omega)] at c8
                                    rw [if_pos c8]
                                    rfl))
                        · obtain ⟨r1, r2, r3, r4⟩ := a5 i (by omega)
                          exact ⟨(if_neg (by omega)).trans r1, (pk_uLn (by omega)).trans r2, (pk_uLn (by omega)).trans r3, (pk_uLn (by omega)).trans r4⟩
                      · obtain ⟨r1, r2, r3, r4⟩ := a6 a p
                        exact ⟨(if_neg (by omega)).trans r1, (pk_uLn (by omega)).trans r2, (pk_uLn (by omega)).trans r3, (pk_uLn (by omega)).trans r4⟩
                    · exact absurd rfl c_319
                  · exact absurd rfl c_266
                · exact absurd rfl c_237
              · refine v_iload dX13_findSides_217 0 rfl ?_
                refine v_goto (tgt := 228) dX13_findSides_219 (by decide) ?_
                refine v_iast dX13_findSides_228 (by repeat (first | with_reducible assumption | (with_reducible refine sv_us.trans ?_; exact rfl) | with_reducible refine (sv_un (by omega)).trans ?_)) (vp_in_nI (by omega) (by omega)) ?_
                refine v_aload_n dX13_findSides_229 rfl 7 rfl ?_
                refine v_getf 48 (ci := 11) (C := RX13) (T := TX13) (N := 71) rfl iwX13_findSides_X13 (Nat.le_of_ble_eq_true rfl) (by decide +kernel) dX13_findSides_230 (by repeat (first | with_reducible assumption | (with_reducible refine sv_us.trans ?_; exact rfl) | with_reducible refine (sv_un (by omega)).trans ?_)) (by repeat (first | with_reducible assumption | (with_reducible refine (sv_ls (by first | omega | (simp only [List.length_set]; omega))).trans ?_; exact rfl) | with_reducible refine (List.getElem?_set_ne (by decide)).trans ?_)) ?_
                refine v_iload dX13_findSides_233 2 rfl ?_
                refine v_iload dX13_findSides_235 1 rfl ?_
                refine v_if_eq (tgt := 250) dX13_findSides_237 (by decide) (fun c_237 => ?_) (fun c_237 => ?_)
                · refine v_aload_n dX13_findSides_250 rfl 7 rfl ?_
                  refine v_getf 45 (ci := 11) (C := RX13) (T := TX13) (N := 71) rfl iwX13_findSides_X13 (Nat.le_of_ble_eq_true rfl) (by decide +kernel) dX13_findSides_251 (by repeat (first | with_reducible assumption | (with_reducible refine sv_us.trans ?_; exact rfl) | with_reducible refine (sv_un (by omega)).trans ?_)) (by repeat (first | with_reducible assumption | (with_reducible refine (sv_ls (by first | omega | (simp only [List.length_set]; omega))).trans ?_; exact rfl) | with_reducible refine (List.getElem?_set_ne (by decide)).trans ?_)) ?_
                  refine v_iload dX13_findSides_254 3 rfl ?_
                  refine v_laldS (v := jN (C k).2) dX13_findSides_256 (by repeat (first | with_reducible assumption | (with_reducible refine sv_us.trans ?_; exact rfl) | with_reducible refine (sv_un (by omega)).trans ?_)) (vp_in_nI (by omega) (by omega)) (by rw [nI_clamp (by omega)]; exact hgy k (by omega)) ?_
                  refine v_last dX13_findSides_257 (by repeat (first | with_reducible assumption | (with_reducible refine sv_us.trans ?_; exact rfl) | with_reducible refine (sv_un (by omega)).trans ?_)) (vp_in_nI (by omega) (by omega)) ?_
                  refine v_aload_n dX13_findSides_258 rfl 7 rfl ?_
                  refine v_getf 49 (ci := 11) (C := RX13) (T := TX13) (N := 71) rfl iwX13_findSides_X13 (Nat.le_of_ble_eq_true rfl) (by decide +kernel) dX13_findSides_259 (by repeat (first | with_reducible assumption | (with_reducible refine sv_us.trans ?_; exact rfl) | with_reducible refine (sv_un (by omega)).trans ?_)) (by repeat (first | with_reducible assumption | (with_reducible refine (sv_ls (by first | omega | (simp only [List.length_set]; omega))).trans ?_; exact rfl) | with_reducible refine (List.getElem?_set_ne (by decide)).trans ?_)) ?_
                  refine v_iload dX13_findSides_262 2 rfl ?_
                  refine v_iload dX13_findSides_264 1 rfl ?_
                  refine v_if_eq (tgt := 291) dX13_findSides_266 (by decide) (fun c_266 => ?_) (fun c_266 => ?_)
                  · refine v_aload_n dX13_findSides_291 rfl 7 rfl ?_
                    refine v_getf 44 (ci := 11) (C := RX13) (T := TX13) (N := 71) rfl iwX13_findSides_X13 (Nat.le_of_ble_eq_true rfl) (by decide +kernel) dX13_findSides_292 (by repeat (first | with_reducible assumption | (with_reducible refine sv_us.trans ?_; exact rfl) | with_reducible refine (sv_un (by omega)).trans ?_)) (by repeat (first | with_reducible assumption | (with_reducible refine (sv_ls (by first | omega | (simp only [List.length_set]; omega))).trans ?_; exact rfl) | with_reducible refine (List.getElem?_set_ne (by decide)).trans ?_)) ?_
                    refine v_iload dX13_findSides_295 3 rfl ?_
                    refine v_laldS (v := jN (C k).1) dX13_findSides_297 (by repeat (first | with_reducible assumption | (with_reducible refine sv_us.trans ?_; exact rfl) | with_reducible refine (sv_un (by omega)).trans ?_)) (vp_in_nI (by omega) (by omega)) (by rw [nI_clamp (by omega)]; exact hgx k (by omega)) ?_
                    refine v_aload_n dX13_findSides_298 rfl 7 rfl ?_
                    refine v_getf 44 (ci := 11) (C := RX13) (T := TX13) (N := 71) rfl iwX13_findSides_X13 (Nat.le_of_ble_eq_true rfl) (by decide +kernel) dX13_findSides_299 (by repeat (first | with_reducible assumption | (with_reducible refine sv_us.trans ?_; exact rfl) | with_reducible refine (sv_un (by omega)).trans ?_)) (by repeat (first | with_reducible assumption | (with_reducible refine (sv_ls (by first | omega | (simp only [List.length_set]; omega))).trans ?_; exact rfl) | with_reducible refine (List.getElem?_set_ne (by decide)).trans ?_)) ?_
                    refine v_iload dX13_findSides_302 3 rfl ?_
                    refine v_iconst (v := 1) dX13_findSides_304 (by decide) ?_
                    refine v_iadd dX13_findSides_305 ?_
                    rw [nI_1]
                    refine v_laldS (v := jN (C (k + 1)).1) dX13_findSides_306 (by repeat (first | with_reducible assumption | (with_reducible refine sv_us.trans ?_; exact rfl) | with_reducible refine (sv_un (by omega)).trans ?_)) (vp_in_nI (by omega) (by omega)) (by rw [nI_clamp (by omega)]; exact hgx (k + 1) (by omega)) ?_
                    refine v_callSq (M' := mX13_least) (n := 2) (As := [_, _]) ggX13_findSides_X13_least (by decide +kernel) (by decide +kernel) (by decide +kernel) rfl (by decide +kernel) ⟨(Nat.le_of_ble_eq_true rfl), (Nat.le_of_ble_eq_true rfl)⟩ dX13_findSides_307 rfl ⟨(Nat.le_of_ble_eq_true rfl), (Nat.le_of_ble_eq_true rfl)⟩ (Nat.le_of_ble_eq_true rfl) rfl (m_leastI G _ _ ck.1 cn.1) (fun v9 h9 y9 hq => v_pq hq ?_)
                    refine v_last dX13_findSides_310 (by repeat (first | with_reducible assumption | (with_reducible refine sv_us.trans ?_; exact rfl) | with_reducible refine (sv_un (by omega)).trans ?_)) (vp_in_nI (by omega) (by omega)) ?_
                    refine v_aload_n dX13_findSides_311 rfl 7 rfl ?_
                    refine v_getf 50 (ci := 11) (C := RX13) (T := TX13) (N := 71) rfl iwX13_findSides_X13 (Nat.le_of_ble_eq_true rfl) (by decide +kernel) dX13_findSides_312 (by repeat (first | with_reducible assumption | (with_reducible refine sv_us.trans ?_; exact rfl) | with_reducible refine (sv_un (by omega)).trans ?_)) (by repeat (first | with_reducible assumption | (with_reducible refine (sv_ls (by first | omega | (simp only [List.length_set]; omega))).trans ?_; exact rfl) | with_reducible refine (List.getElem?_set_ne (by decide)).trans ?_)) ?_
                    refine v_iload dX13_findSides_315 2 rfl ?_
                    refine v_iload dX13_findSides_317 1 rfl ?_
                    refine v_if_eq (tgt := 344) dX13_findSides_319 (by decide) (fun c_319 => ?_) (fun c_319 => ?_)
                    · refine v_aload_n dX13_findSides_344 rfl 7 rfl ?_
                      refine v_getf 44 (ci := 11) (C := RX13) (T := TX13) (N := 71) rfl iwX13_findSides_X13 (Nat.le_of_ble_eq_true rfl) (by decide +kernel) dX13_findSides_345 (by repeat (first | with_reducible assumption | (with_reducible refine sv_us.trans ?_; exact rfl) | with_reducible refine (sv_un (by omega)).trans ?_)) (by repeat (first | with_reducible assumption | (with_reducible refine (sv_ls (by first | omega | (simp only [List.length_set]; omega))).trans ?_; exact rfl) | with_reducible refine (List.getElem?_set_ne (by decide)).trans ?_)) ?_
                      refine v_iload dX13_findSides_348 3 rfl ?_
                      refine v_laldS (v := jN (C k).1) dX13_findSides_350 (by repeat (first | with_reducible assumption | (with_reducible refine sv_us.trans ?_; exact rfl) | with_reducible refine (sv_un (by omega)).trans ?_)) (vp_in_nI (by omega) (by omega)) (by rw [nI_clamp (by omega)]; exact hgx k (by omega)) ?_
                      refine v_aload_n dX13_findSides_351 rfl 7 rfl ?_
                      refine v_getf 44 (ci := 11) (C := RX13) (T := TX13) (N := 71) rfl iwX13_findSides_X13 (Nat.le_of_ble_eq_true rfl) (by decide +kernel) dX13_findSides_352 (by repeat (first | with_reducible assumption | (with_reducible refine sv_us.trans ?_; exact rfl) | with_reducible refine (sv_un (by omega)).trans ?_)) (by repeat (first | with_reducible assumption | (with_reducible refine (sv_ls (by first | omega | (simp only [List.length_set]; omega))).trans ?_; exact rfl) | with_reducible refine (List.getElem?_set_ne (by decide)).trans ?_)) ?_
                      refine v_iload dX13_findSides_355 3 rfl ?_
                      refine v_iconst (v := 1) dX13_findSides_357 (by decide) ?_
                      refine v_iadd dX13_findSides_358 ?_
                      rw [nI_1]
                      refine v_laldS (v := jN (C (k + 1)).1) dX13_findSides_359 (by repeat (first | with_reducible assumption | (with_reducible refine sv_us.trans ?_; exact rfl) | with_reducible refine (sv_un (by omega)).trans ?_)) (vp_in_nI (by omega) (by omega)) (by rw [nI_clamp (by omega)]; exact hgx (k + 1) (by omega)) ?_
                      refine v_callSq (M' := mX13_most) (n := 2) (As := [_, _]) ggX13_findSides_X13_most (by decide +kernel) (by decide +kernel) (by decide +kernel) rfl (by decide +kernel) ⟨(Nat.le_of_ble_eq_true rfl), (Nat.le_of_ble_eq_true rfl)⟩ dX13_findSides_360 rfl ⟨(Nat.le_of_ble_eq_true rfl), (Nat.le_of_ble_eq_true rfl)⟩ (Nat.le_of_ble_eq_true rfl) rfl (m_mostI G _ _ ck.1 cn.1) (fun v9 h9 y9 hq => v_pq hq ?_)
                      refine v_last dX13_findSides_363 (by repeat (first | with_reducible assumption | (with_reducible refine sv_us.trans ?_; exact rfl) | with_reducible refine (sv_un (by omega)).trans ?_)) (vp_in_nI (by omega) (by omega)) ?_
                      refine v_iinc (j := 4) (L' := [(4, _), (8, _), (7, _), (6, _), (5, _), (2, _), (1, _), (0, _)]) (v := nI (k + 1)) dX13_findSides_364 rfl (nI_1 _) (Nat.le_of_ble_eq_true rfl) rfl ?_
                      refine v_goto (tgt := 89) dX13_findSides_367 (by decide) ?_
                      refine v_sub (L' := [(4, _), (2, _), (1, _), (0, _)]) [0, 5, 6, 7] rfl ?_
                      rw [nI_clamp (show 16 * w + k < 2 ^ 31 by omega)]
                      have hit : itM C k = ((C k).2, min (C k).1 (C (k + 1)).1, max (C k).1 (C (k + 1)).1) := if_neg hst
                      have ht : toM C k = (if (C k).1 < (C (k + 1)).1 then 3 else 1) := if_neg hst
                      refine ih (k + 1) (upd ff (16 * w + k) _) (vp_updL gp (16 * w + k) _) (vp_updL gl (16 * w + k) _) (vp_updL gh (16 * w + k) _) _ (by omega) ((sv_un (by omega)).trans ((sv_un (by omega)).trans ((sv_un (by omega)).trans sv_us))) ((sv_un (by omega)).trans ((sv_un (by omega)).trans sv_us)) ((sv_un (by omega)).trans sv_us) sv_us (fun i hi => ?_) (fun a p => ?_) (fun a p => (sv_un (by omega)).trans ((sv_un (by omega)).trans ((sv_un (by omega)).trans ((sv_un (by omega)).trans (fr a p)))))
                      · by_cases e9 : i = k
                        · subst e9
                          rw [hit]
                          refine ⟨(if_pos rfl).trans ?_, pk_uLs, pk_uLs, pk_uLs⟩
                          unfold fcM
                          rw [ht]
                          first
                            | (have c9 : jN (twS C n) ≤ 0 := c_214
                               rw [Int64.le_iff_toInt_le, jN_to (by omega) (by omega)] at c9
                               have c7 : twS C n ≤ 0 := c9
                               rw [if_neg (Int.not_lt.mpr c7)]
                               first
                                 | (have c8 : jN _ ≤ jN _ := c_195
                                    rw [jN_le (by omega) (by omega) (by omega) (by omega)] at c8
                                    rw [if_neg (Int.not_lt.mpr c8)]
                                    decide)
                                 | (have c8 := Int64.not_le.mp c_195
                                    rw [jN_lt (by omega) (by omega) (by omega) (by omega)] at c8
                                    rw [if_pos c8]
                                    decide))
                            | (have c9 := Int64.not_le.mp c_214
                               rw [Int64.lt_iff_toInt_lt, jN_to (by omega) (by omega)] at c9
                               have c7 : 0 < twS C n := c9
                               rw [if_pos c7]
                               first
                                 | (have c8 : jN _ ≤ jN _ := c_195
                                    rw [jN_le (by omega) (by omega) (by omega) (by omega)] at c8
                                    rw [if_neg (Int.not_lt.mpr c8)]
                                    rfl)
                                 | (have c8 := Int64.not_le.mp c_195
                                    rw [jN_lt (by omega) (by omega) (by omega) (by omega)] at c8
                                    rw [if_pos c8]
                                    rfl))
                        · obtain ⟨r1, r2, r3, r4⟩ := a5 i (by omega)
                          exact ⟨(if_neg (by omega)).trans r1, (pk_uLn (by omega)).trans r2, (pk_uLn (by omega)).trans r3, (pk_uLn (by omega)).trans r4⟩
                      · obtain ⟨r1, r2, r3, r4⟩ := a6 a p
                        exact ⟨(if_neg (by omega)).trans r1, (pk_uLn (by omega)).trans r2, (pk_uLn (by omega)).trans r3, (pk_uLn (by omega)).trans r4⟩
                    · exact absurd rfl c_319
                  · exact absurd rfl c_266
                · exact absurd rfl c_237
          · exact absurd rfl c_147
        · exact absurd ((jN_eq (by omega) (by omega) (by omega) (by omega)).mp c_135) hst

set_option maxHeartbeats 4000000 in
set_option maxRecDepth 100000 in
theorem t_fs69 (G : sv_G) (z b nc np pl : Nat) (hb : sv_h) (fs : List Value) (hq0 : mfq_ b nc np pl fs) (hm : hb (b + 220) = some (.inr (11, fs))) (w n : Nat) (hw : w < 2) (hn : n ≤ 16) (C : Nat → Int × Int) (hC : cbd C (n + 1)) (fsd : Nat → Int32) (h43 : ab_I G hb (b + 249) 2 fsd) (hsd : fsd w = nI n) (gx gy : Nat → Int64) (h44 : ab_J G hb (b + 250) 34 gx) (h45 : ab_J G hb (b + 251) 34 gy) (hgx : ∀ k, k ≤ n → gx (17 * w + k) = jN (C k).1) (hgy : ∀ k, k ≤ n → gy (17 * w + k) = jN (C k).2) (ft : Nat → Int32) (h46 : ab_Z G hb (b + 252) 2 ft) (ff0 : Nat → Int32) (gp0 gl0 gh0 : Nat → Int64) (b1 : ab_I G hb (b + 253) 32 ff0) (b2 : ab_J G hb (b + 254) 32 gp0) (b3 : ab_J G hb (b + 255) 32 gl0) (b4 : ab_J G hb (b + 256) 32 gh0) : V G mX13_findSides (sv_MQ G mX13_findSides (fun v h1 z1 => v = none ∧ z1 = z ∧ (∃ ft1, ab_Z G h1 (b + 252) 2 ft1 ∧ ft1 w = (if 0 < twS C n then 1 else 0) ∧ ∀ a, a ≠ w → ft1 a = ft a) ∧ (∃ ff gp gl gh, ab_I G h1 (b + 253) 32 ff ∧ ab_J G h1 (b + 254) 32 gp ∧ ab_J G h1 (b + 255) 32 gl ∧ ab_J G h1 (b + 256) 32 gh ∧ (∀ i, i < n → ff (16 * w + i) = nI (fcM (twS C n) C i) ∧ gp (16 * w + i) = jN (itM C i).1 ∧ gl (16 * w + i) = jN (itM C i).2.1 ∧ gh (16 * w + i) = jN (itM C i).2.2) ∧ ∀ a, ¬ (16 * w ≤ a ∧ a < 16 * w + 16) → ff a = ff0 a ∧ gp a = gp0 a ∧ gl a = gl0 a ∧ gh a = gh0 a) ∧ ∀ a, ¬ (b + 252 ≤ a ∧ a < b + 257) → h1 a = hb a)) 69 [(2, .long (jN (twS C n))), (1, .int (nI w)), (0, .ref (b + 220))] [] hb z 0 0 := by
  have hlen : fs.length = 71 := hq0.1
  have f_sides := hq0.f_sides
  have f_cx := hq0.f_cx
  have f_cy := hq0.f_cy
  have f_toTheLeft := hq0.f_toTheLeft
  have f_face := hq0.f_face
  have f_pos := hq0.f_pos
  have f_low := hq0.f_low
  have f_high := hq0.f_high
  have cb := hC
  have tb := twS_b hC n (Nat.le_refl n)
  by_cases hs : 0 < twS C n
  · refine v_aload_n dX13_findSides_69 rfl 2 rfl ?_
    refine v_getf 46 (ci := 11) (C := RX13) (T := TX13) (N := 71) rfl iwX13_findSides_X13 (Nat.le_of_ble_eq_true rfl) (by decide +kernel) dX13_findSides_70 (by repeat (first | with_reducible assumption | (with_reducible refine sv_us.trans ?_; exact rfl) | with_reducible refine (sv_un (by omega)).trans ?_)) (by repeat (first | with_reducible assumption | (with_reducible refine (sv_ls (by first | omega | (simp only [List.length_set]; omega))).trans ?_; exact rfl) | with_reducible refine (List.getElem?_set_ne (by decide)).trans ?_)) ?_
    refine v_iload_n dX13_findSides_73 rfl 1 rfl ?_
    refine v_lload_n dX13_findSides_74 rfl 0 rfl ?_
    refine v_lconst (v := 0) dX13_findSides_75 (by decide) ?_
    refine v_lcmp_le (tgt := 84) dX13_findSides_76 dX13_findSides_77 (by decide) (fun c_77 => ?_) (fun c_77 => ?_)
    · exact absurd hs (Int.not_lt.mpr (by have c9 := c_77; rw [Int64.le_iff_toInt_le, jN_to (by omega) (by omega)] at c9; exact c9))
    · refine v_iconst (v := 1) dX13_findSides_80 (by decide) ?_
      refine v_goto (tgt := 85) dX13_findSides_81 (by decide) ?_
      refine v_zast (y := 1) dX13_findSides_85 (by first | with_reducible assumption) (vp_in_nI (by omega) (by omega)) rfl ?_
      refine v_iconst (v := 0) dX13_findSides_86 (by decide) ?_
      refine v_istore (L' := [(4, _), (2, _), (1, _), (0, _)]) dX13_findSides_87 (Nat.le_of_ble_eq_true rfl) rfl ?_
      refine v_sub (L' := [(4, _), (2, _), (1, _), (0, _)]) [0, 1, 2, 3] rfl ?_
      rw [nI_clamp (show w < 2 ^ 31 by omega)]
      exact l_fsF G _ _ b nc np pl _ fs hq0 ((sv_un (by omega)).trans hm) w n hw hn C hC fsd ((sv_un (by omega)).trans h43) hsd gx gy ((sv_un (by omega)).trans h44) ((sv_un (by omega)).trans h45) hgx hgy ff0 gp0 gl0 gh0 (fun ff gp gl gh h1 d1 d2 d3 d4 d5 d6 d7 => ⟨rfl, rfl, ⟨_, (d7 _ (by omega)).trans sv_us, (if_pos rfl).trans (if_pos hs).symm, fun a p => if_neg p⟩, ⟨ff, gp, gl, gh, d1, d2, d3, d4, d5, d6⟩, fun a p => (d7 a (by omega)).trans (sv_un (by omega))⟩) n 0 ff0 gp0 gl0 gh0 _ (Nat.zero_add _) ((sv_un (by omega)).trans b1) ((sv_un (by omega)).trans b2) ((sv_un (by omega)).trans b3) ((sv_un (by omega)).trans b4) (fun i hi => absurd hi (Nat.not_lt_zero i)) (fun a _ => ⟨rfl, rfl, rfl, rfl⟩) (fun _ _ => rfl)
  · refine v_aload_n dX13_findSides_69 rfl 2 rfl ?_
    refine v_getf 46 (ci := 11) (C := RX13) (T := TX13) (N := 71) rfl iwX13_findSides_X13 (Nat.le_of_ble_eq_true rfl) (by decide +kernel) dX13_findSides_70 (by repeat (first | with_reducible assumption | (with_reducible refine sv_us.trans ?_; exact rfl) | with_reducible refine (sv_un (by omega)).trans ?_)) (by repeat (first | with_reducible assumption | (with_reducible refine (sv_ls (by first | omega | (simp only [List.length_set]; omega))).trans ?_; exact rfl) | with_reducible refine (List.getElem?_set_ne (by decide)).trans ?_)) ?_
    refine v_iload_n dX13_findSides_73 rfl 1 rfl ?_
    refine v_lload_n dX13_findSides_74 rfl 0 rfl ?_
    refine v_lconst (v := 0) dX13_findSides_75 (by decide) ?_
    refine v_lcmp_le (tgt := 84) dX13_findSides_76 dX13_findSides_77 (by decide) (fun c_77 => ?_) (fun c_77 => ?_)
    · refine v_iconst (v := 0) dX13_findSides_84 (by decide) ?_
      refine v_zast (y := 0) dX13_findSides_85 (by first | with_reducible assumption) (vp_in_nI (by omega) (by omega)) rfl ?_
      refine v_iconst (v := 0) dX13_findSides_86 (by decide) ?_
      refine v_istore (L' := [(4, _), (2, _), (1, _), (0, _)]) dX13_findSides_87 (Nat.le_of_ble_eq_true rfl) rfl ?_
      refine v_sub (L' := [(4, _), (2, _), (1, _), (0, _)]) [0, 1, 2, 3] rfl ?_
      rw [nI_clamp (show w < 2 ^ 31 by omega)]
      exact l_fsF G _ _ b nc np pl _ fs hq0 ((sv_un (by omega)).trans hm) w n hw hn C hC fsd ((sv_un (by omega)).trans h43) hsd gx gy ((sv_un (by omega)).trans h44) ((sv_un (by omega)).trans h45) hgx hgy ff0 gp0 gl0 gh0 (fun ff gp gl gh h1 d1 d2 d3 d4 d5 d6 d7 => ⟨rfl, rfl, ⟨_, (d7 _ (by omega)).trans sv_us, (if_pos rfl).trans (if_neg hs).symm, fun a p => if_neg p⟩, ⟨ff, gp, gl, gh, d1, d2, d3, d4, d5, d6⟩, fun a p => (d7 a (by omega)).trans (sv_un (by omega))⟩) n 0 ff0 gp0 gl0 gh0 _ (Nat.zero_add _) ((sv_un (by omega)).trans b1) ((sv_un (by omega)).trans b2) ((sv_un (by omega)).trans b3) ((sv_un (by omega)).trans b4) (fun i hi => absurd hi (Nat.not_lt_zero i)) (fun a _ => ⟨rfl, rfl, rfl, rfl⟩) (fun _ _ => rfl)
    · exact absurd (by have c9 := Int64.not_le.mp c_77; rw [Int64.lt_iff_toInt_lt, jN_to (by omega) (by omega)] at c9; exact c9) hs

set_option maxHeartbeats 4000000 in
set_option maxRecDepth 100000 in
theorem m_findSides (G : sv_G) (z b nc np pl : Nat) (hb : sv_h) (fs : List Value) (hq0 : mfq_ b nc np pl fs) (hm : hb (b + 220) = some (.inr (11, fs))) (w n : Nat) (hw : w < 2) (hn : n ≤ 16) (C : Nat → Int × Int) (hC : cbd C (n + 1)) (fsd : Nat → Int32) (h43 : ab_I G hb (b + 249) 2 fsd) (hsd : fsd w = nI n) (gx gy : Nat → Int64) (h44 : ab_J G hb (b + 250) 34 gx) (h45 : ab_J G hb (b + 251) 34 gy) (hgx : ∀ k, k ≤ n → gx (17 * w + k) = jN (C k).1) (hgy : ∀ k, k ≤ n → gy (17 * w + k) = jN (C k).2) (ft : Nat → Int32) (h46 : ab_Z G hb (b + 252) 2 ft) (ff0 : Nat → Int32) (gp0 gl0 gh0 : Nat → Int64) (b1 : ab_I G hb (b + 253) 32 ff0) (b2 : ab_J G hb (b + 254) 32 gp0) (b3 : ab_J G hb (b + 255) 32 gl0) (b4 : ab_J G hb (b + 256) 32 gh0) : CT G mX13_findSides [.ref (b + 220), .int (nI w)] hb z (fun v h1 z1 => v = none ∧ z1 = z ∧ (∃ ft1, ab_Z G h1 (b + 252) 2 ft1 ∧ ft1 w = (if 0 < twS C n then 1 else 0) ∧ ∀ a, a ≠ w → ft1 a = ft a) ∧ (∃ ff gp gl gh, ab_I G h1 (b + 253) 32 ff ∧ ab_J G h1 (b + 254) 32 gp ∧ ab_J G h1 (b + 255) 32 gl ∧ ab_J G h1 (b + 256) 32 gh ∧ (∀ i, i < n → ff (16 * w + i) = nI (fcM (twS C n) C i) ∧ gp (16 * w + i) = jN (itM C i).1 ∧ gl (16 * w + i) = jN (itM C i).2.1 ∧ gh (16 * w + i) = jN (itM C i).2.2) ∧ ∀ a, ¬ (16 * w ≤ a ∧ a < 16 * w + 16) → ff a = ff0 a ∧ gp a = gp0 a ∧ gl a = gl0 a ∧ gh a = gh0 a) ∧ ∀ a, ¬ (b + 252 ≤ a ∧ a < b + 257) → h1 a = hb a) := by
  refine CT.of (by decide +kernel) rfl rfl (Nat.le_of_ble_eq_true rfl) ?_
  refine v_lconst (v := 0) dX13_findSides_0 (by decide) ?_
  refine v_lstore_n (L' := [(2, _), (0, _), (1, _)]) dX13_findSides_1 rfl (Nat.le_of_ble_eq_true rfl) rfl ?_
  refine v_iconst (v := 0) dX13_findSides_2 (by decide) ?_
  refine v_istore (L' := [(4, _), (2, _), (0, _), (1, _)]) dX13_findSides_3 (Nat.le_of_ble_eq_true rfl) rfl ?_
  refine v_sub (L' := [(4, _), (2, _), (1, _), (0, _)]) [0, 1, 3, 2] rfl ?_
  exact l_fsS G _ _ b nc np pl hb fs hq0 hm w n hw hn C hC fsd h43 hsd gx gy h44 h45 hgx hgy (t_fs69 G _ b nc np pl hb fs hq0 hm w n hw hn C hC fsd h43 hsd gx gy h44 h45 hgx hgy ft h46 ff0 gp0 gl0 gh0 b1 b2 b3 b4) n 0 (Nat.zero_add _)

