section GU
variable {gu : Nat → Int64}
theorem iwX13_both_X13 : ∀ w ∈ wsX130, w ∈ wsX13_both := by decide +kernel
set_option maxRecDepth 20000 in
theorem ggX13_both_X13_areBoxesOver : GoodIn wsX13_both wsX13_areBoxesOver := goodIn_r _ [10, 11, 12, 13, 14, 15, 16, 17, 9, 18, 19, 20, 21, 22, 23, 24, 25, 26, 27, 72, 73, 74, 75, 76, 77, 78, 79, 80, 81, 82, 83, 84, 85, 86, 87, 88, 89, 90, 91, 92, 93, 94, 95, 96, 97, 98, 99, 100, 101, 102, 103, 104, 105, 106, 107, 108, 109, 110, 111, 112, 113, 114, 115, 116, 117, 118, 119, 120, 121, 122, 123, 124, 125, 126, 127, 128, 129, 130, 131, 132, 133, 134, 135, 136, 137, 138, 139, 140, 141, 142] (by decide +kernel) (by decide +kernel)
set_option maxRecDepth 20000 in
theorem gX13_both_X13_areBoxesOver : GoodIn wsX13_both (wsV RX13 284 RX13 yX13_areBoxesOver wsX13_areBoxesOver) := goodIn_app (goodIn_of _ (by decide +kernel)) ggX13_both_X13_areBoxesOver
set_option maxRecDepth 20000 in
theorem ggX13_both_X13_corners : GoodIn wsX13_both wsX13_corners := goodIn_r _ [31, 21, 19, 20, 32, 2, 4, 33, 34, 35, 9, 36, 37, 38, 39, 40, 41, 42, 43, 44, 45, 46, 47, 48, 49, 50, 51, 52, 53, 54, 55, 56, 57, 58, 59, 60, 61, 62, 22, 23, 24, 25, 26, 27, 72, 73, 74, 75, 76, 77, 78, 79, 80, 81, 82, 83, 84, 85, 86, 87, 88, 89, 90, 91, 92, 93, 94, 95, 96, 97, 98, 99, 100, 101, 102, 103, 104, 105, 106, 107, 108, 109, 110, 111, 112, 113, 114, 115, 116, 117, 118, 119, 120, 121, 122, 123, 124, 125, 126, 127, 128, 129, 130, 131, 132, 133, 134, 135, 136, 137, 138, 139, 140, 141, 142] (by decide +kernel) (by decide +kernel)
set_option maxRecDepth 20000 in
theorem gX13_both_X13_corners : GoodIn wsX13_both (wsV RX13 288 RX13 yX13_corners wsX13_corners) := goodIn_app (goodIn_of _ (by decide +kernel)) ggX13_both_X13_corners
set_option maxRecDepth 20000 in
theorem ggX13_both_X13_gaps : GoodIn wsX13_both wsX13_gaps := goodIn_r _ [66, 4, 21, 67, 37, 32, 2, 68, 69, 70, 71, 25, 26, 9, 27, 22, 23, 24, 39, 40, 41, 42, 43, 44, 45, 46, 47, 48, 49, 50, 51, 52, 53, 54, 55, 56, 57, 58, 59, 60, 61, 62, 72, 73, 74, 75, 76, 77, 78, 79, 80, 81, 82, 83, 84, 85, 86, 87, 88, 89, 90, 91, 92, 93, 94, 95, 96, 97, 98, 99, 100, 101, 102, 103, 104, 105, 106, 107, 108, 109, 110, 111, 112, 113, 114, 115, 116, 117, 118, 119, 120, 121, 122, 123, 124, 125, 126, 127, 128, 129, 130, 131, 132, 133, 134, 135, 136, 137, 138, 139, 140, 141, 142] (by decide +kernel) (by decide +kernel)
set_option maxRecDepth 20000 in
theorem gX13_both_X13_gaps : GoodIn wsX13_both (wsV RX13 292 RX13 yX13_gaps wsX13_gaps) := goodIn_app (goodIn_of _ (by decide +kernel)) ggX13_both_X13_gaps
theorem dX13_both_0 : decode cX13_both 0 = .ok (.aload_n 0, 1) := by decide +kernel
theorem dX13_both_1 : decode cX13_both 1 = .ok (.getfield 47, 3) := by decide +kernel
theorem dX13_both_4 : decode cX13_both 4 = .ok (.aload_n 0, 1) := by decide +kernel
theorem dX13_both_5 : decode cX13_both 5 = .ok (.getfield 254, 3) := by decide +kernel
theorem dX13_both_8 : decode cX13_both 8 = .ok (.iaload, 1) := by decide +kernel
theorem dX13_both_9 : decode cX13_both 9 = .ok (.istore_n 1, 1) := by decide +kernel
theorem dX13_both_10 : decode cX13_both 10 = .ok (.aload_n 0, 1) := by decide +kernel
theorem dX13_both_11 : decode cX13_both 11 = .ok (.getfield 16, 3) := by decide +kernel
theorem dX13_both_14 : decode cX13_both 14 = .ok (.aload_n 0, 1) := by decide +kernel
theorem dX13_both_15 : decode cX13_both 15 = .ok (.getfield 125, 3) := by decide +kernel
theorem dX13_both_18 : decode cX13_both 18 = .ok (.iconst 0, 1) := by decide +kernel
theorem dX13_both_19 : decode cX13_both 19 = .ok (.iaload, 1) := by decide +kernel
theorem dX13_both_20 : decode cX13_both 20 = .ok (.laload, 1) := by decide +kernel
theorem dX13_both_21 : decode cX13_both 21 = .ok (.aload_n 0, 1) := by decide +kernel
theorem dX13_both_22 : decode cX13_both 22 = .ok (.getfield 16, 3) := by decide +kernel
theorem dX13_both_25 : decode cX13_both 25 = .ok (.aload_n 0, 1) := by decide +kernel
theorem dX13_both_26 : decode cX13_both 26 = .ok (.getfield 125, 3) := by decide +kernel
theorem dX13_both_29 : decode cX13_both 29 = .ok (.iconst 1, 1) := by decide +kernel
theorem dX13_both_30 : decode cX13_both 30 = .ok (.iaload, 1) := by decide +kernel
theorem dX13_both_31 : decode cX13_both 31 = .ok (.laload, 1) := by decide +kernel
theorem dX13_both_32 : decode cX13_both 32 = .ok (.lsub, 1) := by decide +kernel
theorem dX13_both_33 : decode cX13_both 33 = .ok (.lstore_n 2, 1) := by decide +kernel
theorem dX13_both_34 : decode cX13_both 34 = .ok (.aload_n 0, 1) := by decide +kernel
theorem dX13_both_35 : decode cX13_both 35 = .ok (.getfield 62, 3) := by decide +kernel
theorem dX13_both_38 : decode cX13_both 38 = .ok (.aload_n 0, 1) := by decide +kernel
theorem dX13_both_39 : decode cX13_both 39 = .ok (.getfield 254, 3) := by decide +kernel
theorem dX13_both_42 : decode cX13_both 42 = .ok (.laload, 1) := by decide +kernel
theorem dX13_both_43 : decode cX13_both 43 = .ok (.lconst 0, 1) := by decide +kernel
theorem dX13_both_44 : decode cX13_both 44 = .ok (.lcmp, 1) := by decide +kernel
theorem dX13_both_45 : decode cX13_both 45 = .ok (.ifCond .lt 28, 3) := by decide +kernel
theorem dX13_both_48 : decode cX13_both 48 = .ok (.lload_n 2, 1) := by decide +kernel
theorem dX13_both_49 : decode cX13_both 49 = .ok (.lconst 0, 1) := by decide +kernel
theorem dX13_both_50 : decode cX13_both 50 = .ok (.lcmp, 1) := by decide +kernel
theorem dX13_both_51 : decode cX13_both 51 = .ok (.ifCond .ge 8, 3) := by decide +kernel
theorem dX13_both_54 : decode cX13_both 54 = .ok (.lload_n 2, 1) := by decide +kernel
theorem dX13_both_55 : decode cX13_both 55 = .ok (.lneg, 1) := by decide +kernel
theorem dX13_both_56 : decode cX13_both 56 = .ok (.goto 4, 3) := by decide +kernel
theorem dX13_both_59 : decode cX13_both 59 = .ok (.lload_n 2, 1) := by decide +kernel
theorem dX13_both_60 : decode cX13_both 60 = .ok (.aload_n 0, 1) := by decide +kernel
theorem dX13_both_61 : decode cX13_both 61 = .ok (.getfield 62, 3) := by decide +kernel
theorem dX13_both_64 : decode cX13_both 64 = .ok (.aload_n 0, 1) := by decide +kernel
theorem dX13_both_65 : decode cX13_both 65 = .ok (.getfield 254, 3) := by decide +kernel
theorem dX13_both_68 : decode cX13_both 68 = .ok (.laload, 1) := by decide +kernel
theorem dX13_both_69 : decode cX13_both 69 = .ok (.lcmp, 1) := by decide +kernel
theorem dX13_both_70 : decode cX13_both 70 = .ok (.ifCond .lt 7, 3) := by decide +kernel
theorem dX13_both_73 : decode cX13_both 73 = .ok (.iconst 1, 1) := by decide +kernel
theorem dX13_both_74 : decode cX13_both 74 = .ok (.goto 4, 3) := by decide +kernel
theorem dX13_both_77 : decode cX13_both 77 = .ok (.iconst 0, 1) := by decide +kernel
theorem dX13_both_78 : decode cX13_both 78 = .ok (.istore 4, 2) := by decide +kernel
theorem dX13_both_80 : decode cX13_both 80 = .ok (.iload_n 1, 1) := by decide +kernel
theorem dX13_both_81 : decode cX13_both 81 = .ok (.bipush 9, 2) := by decide +kernel
theorem dX13_both_83 : decode cX13_both 83 = .ok (.if_icmp .eq 9, 3) := by decide +kernel
theorem dX13_both_86 : decode cX13_both 86 = .ok (.iload_n 1, 1) := by decide +kernel
theorem dX13_both_87 : decode cX13_both 87 = .ok (.bipush 10, 2) := by decide +kernel
theorem dX13_both_89 : decode cX13_both 89 = .ok (.if_icmp .ne 10, 3) := by decide +kernel
theorem dX13_both_92 : decode cX13_both 92 = .ok (.aload_n 0, 1) := by decide +kernel
theorem dX13_both_93 : decode cX13_both 93 = .ok (.invokevirtual 284, 3) := by decide +kernel
theorem dX13_both_96 : decode cX13_both 96 = .ok (.ifCond .eq 7, 3) := by decide +kernel
theorem dX13_both_99 : decode cX13_both 99 = .ok (.iconst 1, 1) := by decide +kernel
theorem dX13_both_100 : decode cX13_both 100 = .ok (.goto 4, 3) := by decide +kernel
theorem dX13_both_103 : decode cX13_both 103 = .ok (.iconst 0, 1) := by decide +kernel
theorem dX13_both_104 : decode cX13_both 104 = .ok (.istore 5, 2) := by decide +kernel
theorem dX13_both_106 : decode cX13_both 106 = .ok (.iload 4, 2) := by decide +kernel
theorem dX13_both_108 : decode cX13_both 108 = .ok (.ifCond .eq 8, 3) := by decide +kernel
theorem dX13_both_111 : decode cX13_both 111 = .ok (.iload 5, 2) := by decide +kernel
theorem dX13_both_113 : decode cX13_both 113 = .ok (.ifCond .ne 4, 3) := by decide +kernel
theorem dX13_both_116 : decode cX13_both 116 = .ok (.return_, 1) := by decide +kernel
theorem dX13_both_117 : decode cX13_both 117 = .ok (.iload_n 1, 1) := by decide +kernel
theorem dX13_both_118 : decode cX13_both 118 = .ok (.bipush 8, 2) := by decide +kernel
theorem dX13_both_120 : decode cX13_both 120 = .ok (.if_icmp .ne 16, 3) := by decide +kernel
theorem dX13_both_123 : decode cX13_both 123 = .ok (.aload_n 0, 1) := by decide +kernel
theorem dX13_both_124 : decode cX13_both 124 = .ok (.iconst 0, 1) := by decide +kernel
theorem dX13_both_125 : decode cX13_both 125 = .ok (.iconst 1, 1) := by decide +kernel
theorem dX13_both_126 : decode cX13_both 126 = .ok (.invokevirtual 288, 3) := by decide +kernel
theorem dX13_both_129 : decode cX13_both 129 = .ok (.aload_n 0, 1) := by decide +kernel
theorem dX13_both_130 : decode cX13_both 130 = .ok (.iconst 1, 1) := by decide +kernel
theorem dX13_both_131 : decode cX13_both 131 = .ok (.iconst 0, 1) := by decide +kernel
theorem dX13_both_132 : decode cX13_both 132 = .ok (.invokevirtual 288, 3) := by decide +kernel
theorem dX13_both_135 : decode cX13_both 135 = .ok (.return_, 1) := by decide +kernel
theorem dX13_both_136 : decode cX13_both 136 = .ok (.iconst 0, 1) := by decide +kernel
theorem dX13_both_137 : decode cX13_both 137 = .ok (.istore 6, 2) := by decide +kernel
theorem dX13_both_139 : decode cX13_both 139 = .ok (.iload 6, 2) := by decide +kernel
theorem dX13_both_141 : decode cX13_both 141 = .ok (.iconst 2, 1) := by decide +kernel
theorem dX13_both_142 : decode cX13_both 142 = .ok (.if_icmp .ge 111, 3) := by decide +kernel
theorem dX13_both_145 : decode cX13_both 145 = .ok (.iload_n 1, 1) := by decide +kernel
theorem dX13_both_146 : decode cX13_both 146 = .ok (.bipush 7, 2) := by decide +kernel
theorem dX13_both_148 : decode cX13_both 148 = .ok (.if_icmp .ne 34, 3) := by decide +kernel
theorem dX13_both_151 : decode cX13_both 151 = .ok (.aload_n 0, 1) := by decide +kernel
theorem dX13_both_152 : decode cX13_both 152 = .ok (.iconst 0, 1) := by decide +kernel
theorem dX13_both_153 : decode cX13_both 153 = .ok (.iload 6, 2) := by decide +kernel
theorem dX13_both_155 : decode cX13_both 155 = .ok (.iconst 1, 1) := by decide +kernel
theorem dX13_both_156 : decode cX13_both 156 = .ok (.iload 6, 2) := by decide +kernel
theorem dX13_both_158 : decode cX13_both 158 = .ok (.iconst 2, 1) := by decide +kernel
theorem dX13_both_159 : decode cX13_both 159 = .ok (.iadd, 1) := by decide +kernel
theorem dX13_both_160 : decode cX13_both 160 = .ok (.lconst 1, 1) := by decide +kernel
theorem dX13_both_161 : decode cX13_both 161 = .ok (.iconst 0, 1) := by decide +kernel
theorem dX13_both_162 : decode cX13_both 162 = .ok (.invokevirtual 292, 3) := by decide +kernel
theorem dX13_both_165 : decode cX13_both 165 = .ok (.aload_n 0, 1) := by decide +kernel
theorem dX13_both_166 : decode cX13_both 166 = .ok (.iconst 1, 1) := by decide +kernel
theorem dX13_both_167 : decode cX13_both 167 = .ok (.iload 6, 2) := by decide +kernel
theorem dX13_both_169 : decode cX13_both 169 = .ok (.iconst 0, 1) := by decide +kernel
theorem dX13_both_170 : decode cX13_both 170 = .ok (.iload 6, 2) := by decide +kernel
theorem dX13_both_172 : decode cX13_both 172 = .ok (.iconst 2, 1) := by decide +kernel
theorem dX13_both_173 : decode cX13_both 173 = .ok (.iadd, 1) := by decide +kernel
theorem dX13_both_174 : decode cX13_both 174 = .ok (.lconst 1, 1) := by decide +kernel
theorem dX13_both_175 : decode cX13_both 175 = .ok (.iconst 0, 1) := by decide +kernel
theorem dX13_both_176 : decode cX13_both 176 = .ok (.invokevirtual 292, 3) := by decide +kernel
theorem dX13_both_179 : decode cX13_both 179 = .ok (.goto 68, 3) := by decide +kernel
theorem dX13_both_182 : decode cX13_both 182 = .ok (.iload_n 1, 1) := by decide +kernel
theorem dX13_both_183 : decode cX13_both 183 = .ok (.bipush 10, 2) := by decide +kernel
theorem dX13_both_185 : decode cX13_both 185 = .ok (.if_icmp .ne 34, 3) := by decide +kernel
theorem dX13_both_188 : decode cX13_both 188 = .ok (.aload_n 0, 1) := by decide +kernel
theorem dX13_both_189 : decode cX13_both 189 = .ok (.iconst 1, 1) := by decide +kernel
theorem dX13_both_190 : decode cX13_both 190 = .ok (.iload 6, 2) := by decide +kernel
theorem dX13_both_192 : decode cX13_both 192 = .ok (.iconst 2, 1) := by decide +kernel
theorem dX13_both_193 : decode cX13_both 193 = .ok (.iadd, 1) := by decide +kernel
theorem dX13_both_194 : decode cX13_both 194 = .ok (.iconst 0, 1) := by decide +kernel
theorem dX13_both_195 : decode cX13_both 195 = .ok (.iload 6, 2) := by decide +kernel
theorem dX13_both_197 : decode cX13_both 197 = .ok (.lconst 1, 1) := by decide +kernel
theorem dX13_both_198 : decode cX13_both 198 = .ok (.iconst 1, 1) := by decide +kernel
theorem dX13_both_199 : decode cX13_both 199 = .ok (.invokevirtual 292, 3) := by decide +kernel
theorem dX13_both_202 : decode cX13_both 202 = .ok (.aload_n 0, 1) := by decide +kernel
theorem dX13_both_203 : decode cX13_both 203 = .ok (.iconst 0, 1) := by decide +kernel
theorem dX13_both_204 : decode cX13_both 204 = .ok (.iload 6, 2) := by decide +kernel
theorem dX13_both_206 : decode cX13_both 206 = .ok (.iconst 2, 1) := by decide +kernel
theorem dX13_both_207 : decode cX13_both 207 = .ok (.iadd, 1) := by decide +kernel
theorem dX13_both_208 : decode cX13_both 208 = .ok (.iconst 1, 1) := by decide +kernel
theorem dX13_both_209 : decode cX13_both 209 = .ok (.iload 6, 2) := by decide +kernel
theorem dX13_both_211 : decode cX13_both 211 = .ok (.lconst 1, 1) := by decide +kernel
theorem dX13_both_212 : decode cX13_both 212 = .ok (.iconst 1, 1) := by decide +kernel
theorem dX13_both_213 : decode cX13_both 213 = .ok (.invokevirtual 292, 3) := by decide +kernel
theorem dX13_both_216 : decode cX13_both 216 = .ok (.goto 31, 3) := by decide +kernel
theorem dX13_both_219 : decode cX13_both 219 = .ok (.aload_n 0, 1) := by decide +kernel
theorem dX13_both_220 : decode cX13_both 220 = .ok (.iconst 0, 1) := by decide +kernel
theorem dX13_both_221 : decode cX13_both 221 = .ok (.iload 6, 2) := by decide +kernel
theorem dX13_both_223 : decode cX13_both 223 = .ok (.iconst 1, 1) := by decide +kernel
theorem dX13_both_224 : decode cX13_both 224 = .ok (.iload 6, 2) := by decide +kernel
theorem dX13_both_226 : decode cX13_both 226 = .ok (.lconst 0, 1) := by decide +kernel
theorem dX13_both_227 : decode cX13_both 227 = .ok (.iconst 0, 1) := by decide +kernel
theorem dX13_both_228 : decode cX13_both 228 = .ok (.invokevirtual 292, 3) := by decide +kernel
theorem dX13_both_231 : decode cX13_both 231 = .ok (.aload_n 0, 1) := by decide +kernel
theorem dX13_both_232 : decode cX13_both 232 = .ok (.iconst 1, 1) := by decide +kernel
theorem dX13_both_233 : decode cX13_both 233 = .ok (.iload 6, 2) := by decide +kernel
theorem dX13_both_235 : decode cX13_both 235 = .ok (.iconst 2, 1) := by decide +kernel
theorem dX13_both_236 : decode cX13_both 236 = .ok (.iadd, 1) := by decide +kernel
theorem dX13_both_237 : decode cX13_both 237 = .ok (.iconst 0, 1) := by decide +kernel
theorem dX13_both_238 : decode cX13_both 238 = .ok (.iload 6, 2) := by decide +kernel
theorem dX13_both_240 : decode cX13_both 240 = .ok (.iconst 2, 1) := by decide +kernel
theorem dX13_both_241 : decode cX13_both 241 = .ok (.iadd, 1) := by decide +kernel
theorem dX13_both_242 : decode cX13_both 242 = .ok (.lconst 0, 1) := by decide +kernel
theorem dX13_both_243 : decode cX13_both 243 = .ok (.iconst 1, 1) := by decide +kernel
theorem dX13_both_244 : decode cX13_both 244 = .ok (.invokevirtual 292, 3) := by decide +kernel
theorem dX13_both_247 : decode cX13_both 247 = .ok (.iinc 6 1, 3) := by decide +kernel
theorem dX13_both_250 : decode cX13_both 250 = .ok (.goto (-111), 3) := by decide +kernel
theorem dX13_both_253 : decode cX13_both 253 = .ok (.return_, 1) := by decide +kernel

abbrev mX13_both : sv_M := (cX13_both, 7, yX13_both, wsX13_both, none, { frames := 10, cells := 0, slots := 0, locals := 260 }, [])
theorem i64_jN (x : Int32) : x.toInt64 = jN x.toInt := (jN_of x.toInt64).symm.trans (congrArg jN (Int32.toInt_toInt64 x))
theorem nI_11 : ∀ k, k < 11 → ∀ m, m < 11 → nI k = nI m → k = m := by decide
theorem mru_.kp {G : sv_G} {h h1 : sv_h} {b ri kd : Nat} {l1 l2 x3 x4 x5 x6 : Int32} (H : mru_ G h b ri kd l1 l2 x3 x4 x5 x6) (e : ∀ a, b + 233 ≤ a → a < b + 240 → h1 a = h a) : mru_ G h1 b ri kd l1 l2 x3 x4 x5 x6 := by
  obtain ⟨q0, q1, ⟨f1, a1, b1⟩, ⟨f2, a2, b2⟩, ⟨f3, a3, b3⟩, ⟨f4, a4, b4⟩, ⟨f5, a5, b5⟩, ⟨f6, a6, b6⟩, ⟨f7, a7, b7⟩⟩ := H
  exact ⟨q0, q1, ⟨f1, (e _ (by omega) (by omega)).trans a1, b1⟩, ⟨f2, (e _ (by omega) (by omega)).trans a2, b2⟩, ⟨f3, (e _ (by omega) (by omega)).trans a3, b3⟩, ⟨f4, (e _ (by omega) (by omega)).trans a4, b4⟩, ⟨f5, (e _ (by omega) (by omega)).trans a5, b5⟩, ⟨f6, (e _ (by omega) (by omega)).trans a6, b6⟩, ⟨f7, (e _ (by omega) (by omega)).trans a7, b7⟩⟩
theorem mld_.kp {G : sv_G} {h h1 : sv_h} {b k : Nat} {n pg : Nat → Nat} {cc : Nat → Nat → Int × Int} (H : mld_ G h b k n pg cc) (e : ∀ a, b + 249 ≤ a → a < b + 258 → h1 a = h a) : mld_ G h1 b k n pg cc := by
  obtain ⟨f1, f2, f3, f4, f5, f6, f7, f8, f9, a1, a2, a3, a4, a5, a6, a7, a8, a9, q⟩ := H
  exact ⟨f1, f2, f3, f4, f5, f6, f7, f8, f9, (e _ (by omega) (by omega)).trans a1, (e _ (by omega) (by omega)).trans a2, (e _ (by omega) (by omega)).trans a3, (e _ (by omega) (by omega)).trans a4, (e _ (by omega) (by omega)).trans a5, (e _ (by omega) (by omega)).trans a6, (e _ (by omega) (by omega)).trans a7, (e _ (by omega) (by omega)).trans a8, (e _ (by omega) (by omega)).trans a9, q⟩
theorem mT_.kp {G : sv_G} {h h1 : sv_h} {b : Nat} {fs fs1 : List Value} {E : List (List Int64)} (H : mT_ gu G h b fs E) (e : h1 (b + 241) = h (b + 241)) (e28 : fs1[28]? = fs[28]?) (e29 : fs1[29]? = fs[29]?) : mT_ gu G h1 b fs1 E := by
  obtain ⟨q1, q2, gt, q3, q4⟩ := H
  exact ⟨e28.trans q1, e29.trans q2, gt, e.trans q3, q4⟩
/-- what gaps and corners tell -/
def gQ (M : mvT) (x3 x4 x6 : Int32) (hmI : Int) (n pg : Nat → Nat) (cc : Nat → Nat → Int × Int) (v fV w fW : Nat) (near : Int) (tu : Int32) : List (List Int64) := gpL M fV fW near x3.toInt (lrn x4).toInt x6 ((pg (if tu = 0 then v else w) : Nat) : Int) (if v = w then -1 else ((pg (if tu = 0 then w else v) : Nat) : Int)) hmI (fcM (twS (cc v) (n v)) (cc v)) (fcM (twS (cc w) (n w)) (cc w)) (itM (cc v)) (itM (cc w)) (n v) (n w)
def cQ (M : mvT) (x3 : Int32) (hmI : Int) (n pg : Nat → Nat) (cc : Nat → Nat → Int × Int) (v w : Nat) : List (List Int64) := cnL M x3.toInt (pg v : Int) (pg w : Int) hmI (twS (cc v) (n v)) (twS (cc w) (n w)) (cc v) (cc w) (n v) (n w)
/-- what a pair tells the model, at direction f -/
def bQf (M : mvT) (kd : Nat) (x3 x4 x6 : Int32) (hmI : Int) (n pg : Nat → Nat) (cc : Nat → Nat → Int × Int) (f : Nat) : List (List Int64) := if kd = 7 then gQ M x3 x4 x6 hmI n pg cc 0 f 1 (f + 2) 1 0 ++ gQ M x3 x4 x6 hmI n pg cc 1 f 0 (f + 2) 1 0 else if kd = 10 then gQ M x3 x4 x6 hmI n pg cc 1 (f + 2) 0 f 1 1 ++ gQ M x3 x4 x6 hmI n pg cc 0 (f + 2) 1 f 1 1 else gQ M x3 x4 x6 hmI n pg cc 0 f 1 f 0 0 ++ gQ M x3 x4 x6 hmI n pg cc 1 (f + 2) 0 (f + 2) 0 1
def bQ0 (M : mvT) (kd : Nat) (x3 x4 x6 : Int32) (hmI : Int) (n pg : Nat → Nat) (cc : Nat → Nat → Int × Int) : List (List Int64) := if kd = 8 then cQ M x3 hmI n pg cc 0 1 ++ cQ M x3 hmI n pg cc 1 0 else (List.range 2).flatMap (bQf M kd x3 x4 x6 hmI n pg cc)
/-- the voltages differ enough -/
abbrev tnM (x5 u w : Int32) : Prop := x5.toInt < 0 ∨ x5.toInt ≤ (if u.toInt - w.toInt < 0 then -(u.toInt - w.toInt) else u.toInt - w.toInt)
def bQ (M : mvT) (kd : Nat) (x3 x4 x5 x6 : Int32) (hmI : Int) (n pg : Nat → Nat) (cc : Nat → Nat → Int × Int) (vo : Nat → Int32) : List (List Int64) := if tnM x5 (vo (pg 0)) (vo (pg 1)) ∧ (¬ (kd = 9 ∨ kd = 10) ∨ bxV (cc 0) (cc 1) (n 0) (n 1)) then bQ0 M kd x3 x4 x6 hmI n pg cc else []
theorem m_gapsL (G : sv_G) (z b nc np pl : Nat) (R : Nat → Bool) (hm p3 p4 sz : Nat → Nat) (ly vo : Nat → Int32) (mp : Nat → mvT) (X Y : Nat → Nat → Int) (hb : sv_h) (fs0 : List Value) (hq0 : mfq_ b nc np pl fs0) (MY : myl_ G hb b nc np pl R hm p3 p4 sz ly vo mp X Y) (O : List (List Nat × Nat)) (MO : moc_ G hb b O) (o : Nat) (ho : o < O.length) (how : ∀ i, i ∈ (O.getD o ([], 0)).1 → i < pl) (d : Nat) (hd : d ≤ (O.getD o ([], 0)).1.length) (h60 : fs0[60]? = some (.int (nI o))) (h61 : fs0[61]? = some (.int (nI d))) (mc : Nat) (hmc : mc < 100) (h62 : fs0[62]? = some (.int (nI mc))) (hMB : ∀ x y : Int, -200000 ≤ x ∧ x ≤ 200000 → -200000 ≤ y ∧ y ≤ 200000 → (-1000000000 ≤ (mvA (mvW mp ((O.getD o ([], 0)).1.take d)) (x, y)).1 ∧ (mvA (mvW mp ((O.getD o ([], 0)).1.take d)) (x, y)).1 ≤ 1000000000) ∧ (-1000000000 ≤ (mvA (mvW mp ((O.getD o ([], 0)).1.take d)) (x, y)).2 ∧ (mvA (mvW mp ((O.getD o ([], 0)).1.take d)) (x, y)).2 ≤ 1000000000)) (ri kd : Nat) (l1 l2 x3 x4 x5 x6 : Int32) (RU : mru_ G hb b ri kd l1 l2 x3 x4 x5 x6) (h58 : fs0[58]? = some (.int (nI ri))) (hen : x6 = -1 ∨ 0 ≤ x6) (kk : Nat) (n pg : Nat → Nat) (cc : Nat → Nat → Int × Int) (LD : mld_ G hb b kk n pg cc) (LK : mlk_ kk n pg cc) (v w fV fW : Nat) (hv : v < kk) (hw : w < kk) (hfV : fV < 4) (hfW : fW < 4) (near : Int) (hne : 0 ≤ near ∧ near ≤ 1) (tu : Int32) (vI wI fVI fWI : Int32) (neL : Int64) (i1 : vI = nI v) (i2 : wI = nI w) (i3 : fVI = nI fV) (i4 : fWI = nI fW) (i5 : neL = jN near) (h : sv_h) (fs : List Value) (hm9 : h (b + 220) = some (.inr (11, fs))) (hl : fs.length = 71) (hE : fsE [28, 29, 52, 53] fs0 fs) (fr : (∀ a, a ≠ b + 220 → a ≠ b + 241 → h a = hb a)) (E0 : List (List Int64)) (T : mT_ gu G h b fs E0) : CT G mX13_gaps [.ref (b + 220), .int vI, .int fVI, .int wI, .int fWI, .long neL, .int tu] h z (fun v9 h1 z1 => v9 = none ∧ z1 = z ∧ ∃ fs1, h1 (b + 220) = some (.inr (11, fs1)) ∧ fs1.length = 71 ∧ fsE [28, 29, 52, 53] fs0 fs1 ∧ (∀ a, a ≠ b + 220 → a ≠ b + 241 → h1 a = hb a) ∧ mT_ gu G h1 b fs1 (E0 ++ gQ (mvW mp ((O.getD o ([], 0)).1.take d)) x3 x4 x6 (mc : Int) n pg cc v fV w fW near tu)) := by
  subst i1 i2 i3 i4 i5
  exact m_gaps G z b nc np pl R hm p3 p4 sz ly vo mp X Y hb fs0 hq0 MY O MO o ho how d hd h60 h61 mc hmc h62 hMB ri kd l1 l2 x3 x4 x5 x6 RU h58 hen kk n pg cc LD LK v w fV fW hv hw hfV hfW near hne tu h fs hm9 hl hE fr E0 T
theorem m_cornersL (G : sv_G) (z b nc np pl : Nat) (R : Nat → Bool) (hm p3 p4 sz : Nat → Nat) (ly vo : Nat → Int32) (mp : Nat → mvT) (X Y : Nat → Nat → Int) (hb : sv_h) (fs0 : List Value) (hq0 : mfq_ b nc np pl fs0) (MY : myl_ G hb b nc np pl R hm p3 p4 sz ly vo mp X Y) (O : List (List Nat × Nat)) (MO : moc_ G hb b O) (o : Nat) (ho : o < O.length) (how : ∀ i, i ∈ (O.getD o ([], 0)).1 → i < pl) (d : Nat) (hd : d ≤ (O.getD o ([], 0)).1.length) (h60 : fs0[60]? = some (.int (nI o))) (h61 : fs0[61]? = some (.int (nI d))) (mc : Nat) (hmc : mc < 100) (h62 : fs0[62]? = some (.int (nI mc))) (hMB : ∀ x y : Int, -200000 ≤ x ∧ x ≤ 200000 → -200000 ≤ y ∧ y ≤ 200000 → (-1000000000 ≤ (mvA (mvW mp ((O.getD o ([], 0)).1.take d)) (x, y)).1 ∧ (mvA (mvW mp ((O.getD o ([], 0)).1.take d)) (x, y)).1 ≤ 1000000000) ∧ (-1000000000 ≤ (mvA (mvW mp ((O.getD o ([], 0)).1.take d)) (x, y)).2 ∧ (mvA (mvW mp ((O.getD o ([], 0)).1.take d)) (x, y)).2 ≤ 1000000000)) (ri kd : Nat) (l1 l2 x3 x4 x5 x6 : Int32) (RU : mru_ G hb b ri kd l1 l2 x3 x4 x5 x6) (h58 : fs0[58]? = some (.int (nI ri))) (hen : x6 = -1 ∨ 0 ≤ x6) (kk : Nat) (n pg : Nat → Nat) (cc : Nat → Nat → Int × Int) (LD : mld_ G hb b kk n pg cc) (LK : mlk_ kk n pg cc) (v w : Nat) (hv : v < kk) (hw : w < kk) (vI wI : Int32) (i1 : vI = nI v) (i2 : wI = nI w) (h : sv_h) (fs : List Value) (hm9 : h (b + 220) = some (.inr (11, fs))) (hl : fs.length = 71) (hE : fsE [28, 29, 52, 53] fs0 fs) (fr : (∀ a, a ≠ b + 220 → a ≠ b + 241 → h a = hb a)) (E0 : List (List Int64)) (T : mT_ gu G h b fs E0) : CT G mX13_corners [.ref (b + 220), .int vI, .int wI] h z (fun v9 h1 z1 => v9 = none ∧ z1 = z ∧ ∃ fs1, h1 (b + 220) = some (.inr (11, fs1)) ∧ fs1.length = 71 ∧ fsE [28, 29, 52, 53] fs0 fs1 ∧ (∀ a, a ≠ b + 220 → a ≠ b + 241 → h1 a = hb a) ∧ mT_ gu G h1 b fs1 (E0 ++ cQ (mvW mp ((O.getD o ([], 0)).1.take d)) x3 (mc : Int) n pg cc v w)) := by
  subst i1 i2
  exact m_corners G z b nc np pl R hm p3 p4 sz ly vo mp X Y hb fs0 hq0 MY O MO o ho how d hd h60 h61 mc hmc h62 hMB ri kd l1 l2 x3 x4 x5 x6 RU h58 hen kk n pg cc LD LK v w hv hw h fs hm9 hl hE fr E0 T
set_option maxHeartbeats 4000000 in
set_option maxRecDepth 100000 in
theorem l_boF (G : sv_G) (Qr : Option Value → sv_h → Nat → Prop) (z b nc np pl : Nat) (R : Nat → Bool) (hm p3 p4 sz : Nat → Nat) (ly vo : Nat → Int32) (mp : Nat → mvT) (X Y : Nat → Nat → Int) (hb : sv_h) (fs0 : List Value) (hq0 : mfq_ b nc np pl fs0) (MY : myl_ G hb b nc np pl R hm p3 p4 sz ly vo mp X Y) (O : List (List Nat × Nat)) (MO : moc_ G hb b O) (o : Nat) (ho : o < O.length) (how : ∀ i, i ∈ (O.getD o ([], 0)).1 → i < pl) (d : Nat) (hd : d ≤ (O.getD o ([], 0)).1.length) (h60 : fs0[60]? = some (.int (nI o))) (h61 : fs0[61]? = some (.int (nI d))) (mc : Nat) (hmc : mc < 100) (h62 : fs0[62]? = some (.int (nI mc))) (hMB : ∀ x y : Int, -200000 ≤ x ∧ x ≤ 200000 → -200000 ≤ y ∧ y ≤ 200000 → (-1000000000 ≤ (mvA (mvW mp ((O.getD o ([], 0)).1.take d)) (x, y)).1 ∧ (mvA (mvW mp ((O.getD o ([], 0)).1.take d)) (x, y)).1 ≤ 1000000000) ∧ (-1000000000 ≤ (mvA (mvW mp ((O.getD o ([], 0)).1.take d)) (x, y)).2 ∧ (mvA (mvW mp ((O.getD o ([], 0)).1.take d)) (x, y)).2 ≤ 1000000000)) (ri kd : Nat) (l1 l2 x3 x4 x5 x6 : Int32) (RU : mru_ G hb b ri kd l1 l2 x3 x4 x5 x6) (h58 : fs0[58]? = some (.int (nI ri))) (hen : x6 = -1 ∨ 0 ≤ x6) (n pg : Nat → Nat) (cc : Nat → Nat → Int × Int) (LD : mld_ G hb b 2 n pg cc) (LK : mlk_ 2 n pg cc) (hk8 : ¬ kd = 8) (E0 : List (List Int64)) (hk : ∀ (h : sv_h) (fs : List Value), h (b + 220) = some (.inr (11, fs)) → fs.length = 71 → fsE [28, 29, 52, 53] fs0 fs → (∀ a, a ≠ b + 220 → a ≠ b + 241 → h a = hb a) → mT_ gu G h b fs (E0 ++ (List.range 2).flatMap (bQf (mvW mp ((O.getD o ([], 0)).1.take d)) kd x3 x4 x6 (mc : Int) n pg cc)) → Qr none h z) : ∀ (e f : Nat) (h : sv_h) (fs : List Value), f + e = 2 → h (b + 220) = some (.inr (11, fs)) → fs.length = 71 → fsE [28, 29, 52, 53] fs0 fs → (∀ a, a ≠ b + 220 → a ≠ b + 241 → h a = hb a) → mT_ gu G h b fs ((E0 ++ (List.range f).flatMap (bQf (mvW mp ((O.getD o ([], 0)).1.take d)) kd x3 x4 x6 (mc : Int) n pg cc))) → V G mX13_both (sv_MQ G mX13_both Qr) 139 [(6, .int (nI f)), (1, .int (nI kd)), (0, .ref (b + 220))] [] h z 0 0 := by
  intro e
  induction e with
  | zero =>
    intro f h fs hfe hm9 hl hE fr T
    have r1 := RU.2.1
    have e9 : f = 2 := by omega
    subst e9
    refine v_iload dX13_both_139 0 rfl ?_
    refine v_iconst (v := 2) dX13_both_141 (by decide) ?_
    refine v_icmp_ge (tgt := 253) dX13_both_142 (by decide) (fun c_142 => ?_) (fun c_142 => ?_)
    · exact v_ret rfl dX13_both_253 (Nat.le_of_ble_eq_true rfl) (Nat.le_of_ble_eq_true rfl) (hk h fs hm9 hl hE fr T)
    · exact absurd (by decide) c_142
  | succ e ih =>
    intro f h fs hfe hm9 hl hE fr T
    have r1 := RU.2.1
    have hf : f < 2 := by omega
    refine v_iload dX13_both_139 0 rfl ?_
    refine v_iconst (v := 2) dX13_both_141 (by decide) ?_
    refine v_icmp_ge (tgt := 253) dX13_both_142 (by decide) (fun c_142 => ?_) (fun c_142 => ?_)
    · exact absurd c_142 (nI_ge (b := 2) hf (by omega))
    · refine v_iload_n dX13_both_145 rfl 1 rfl ?_
      refine v_bipush (v := 7) dX13_both_146 (by decide) ?_
      refine v_icmp_ne (tgt := 182) dX13_both_148 (by decide) (fun c_148 => ?_) (fun c_148 => ?_)
      · refine v_iload_n dX13_both_182 rfl 1 rfl ?_
        refine v_bipush (v := 10) dX13_both_183 (by decide) ?_
        refine v_icmp_ne (tgt := 219) dX13_both_185 (by decide) (fun c_185 => ?_) (fun c_185 => ?_)
        · refine v_aload_n dX13_both_219 rfl 2 rfl ?_
          refine v_iconst (v := 0) dX13_both_220 (by decide) ?_
          refine v_iload dX13_both_221 0 rfl ?_
          refine v_iconst (v := 1) dX13_both_223 (by decide) ?_
          refine v_iload dX13_both_224 0 rfl ?_
          refine v_lconst (v := 0) dX13_both_226 (by decide) ?_
          refine v_iconst (v := 0) dX13_both_227 (by decide) ?_
          refine v_callVq (M' := mX13_gaps) (n := 6) (As := [_, _, _, _, _, _]) (ci := 11) (r := (RX13, TX13, 71)) gX13_both_X13_gaps rfl (by decide +kernel) ⟨(Nat.le_of_ble_eq_true rfl), (Nat.le_of_ble_eq_true rfl)⟩ rfl rfl dX13_both_228 rfl ⟨(Nat.le_of_ble_eq_true rfl), (Nat.le_of_ble_eq_true rfl)⟩ (Nat.le_of_ble_eq_true rfl) (by first | with_reducible assumption) rfl (m_gapsL G _ b nc np pl R hm p3 p4 sz ly vo mp X Y hb fs0 hq0 MY O MO o ho how d hd h60 h61 mc hmc h62 hMB ri kd l1 l2 x3 x4 x5 x6 RU h58 hen 2 n pg cc LD LK 0 1 f f (by decide) (by decide) (by omega) (by omega) 0 (by decide) 0 _ _ _ _ _ rfl rfl rfl rfl rfl h fs hm9 hl hE fr _ T) (fun v9 h1 z1 hq9 => ?_)
          obtain ⟨rfl, rfl, fs1, u1, u2, u3, u4, T1⟩ := hq9
          refine v_aload_n dX13_both_231 rfl 2 rfl ?_
          refine v_iconst (v := 1) dX13_both_232 (by decide) ?_
          refine v_iload dX13_both_233 0 rfl ?_
          refine v_iconst (v := 2) dX13_both_235 (by decide) ?_
          refine v_iadd dX13_both_236 ?_
          refine v_iconst (v := 0) dX13_both_237 (by decide) ?_
          refine v_iload dX13_both_238 0 rfl ?_
          refine v_iconst (v := 2) dX13_both_240 (by decide) ?_
          refine v_iadd dX13_both_241 ?_
          refine v_lconst (v := 0) dX13_both_242 (by decide) ?_
          refine v_iconst (v := 1) dX13_both_243 (by decide) ?_
          refine v_callVq (M' := mX13_gaps) (n := 6) (As := [_, _, _, _, _, _]) (ci := 11) (r := (RX13, TX13, 71)) gX13_both_X13_gaps rfl (by decide +kernel) ⟨(Nat.le_of_ble_eq_true rfl), (Nat.le_of_ble_eq_true rfl)⟩ rfl rfl dX13_both_244 rfl ⟨(Nat.le_of_ble_eq_true rfl), (Nat.le_of_ble_eq_true rfl)⟩ (Nat.le_of_ble_eq_true rfl) (by first | with_reducible assumption) rfl (m_gapsL G _ b nc np pl R hm p3 p4 sz ly vo mp X Y hb fs0 hq0 MY O MO o ho how d hd h60 h61 mc hmc h62 hMB ri kd l1 l2 x3 x4 x5 x6 RU h58 hen 2 n pg cc LD LK 1 0 (f + 2) (f + 2) (by decide) (by decide) (by omega) (by omega) 0 (by decide) 1 _ _ _ _ _ rfl rfl (sv_p2 f) (sv_p2 f) rfl h1 fs1 u1 u2 u3 u4 _ T1) (fun v9 h2 z2 hq9 => ?_)
          obtain ⟨rfl, rfl, fs2, v1, v2, v3, v4, T2⟩ := hq9
          refine v_iinc (j := 0) (L' := [(6, _), (1, _), (0, _)]) (v := nI (f + 1)) dX13_both_247 rfl (nI_1 _) (Nat.le_of_ble_eq_true rfl) rfl ?_
          refine v_goto (tgt := 139) dX13_both_250 (by decide) ?_
          refine v_sub (L' := [(6, _), (1, _), (0, _)]) [0, 1, 2] rfl ?_
          refine ih (f + 1) h2 fs2 (by omega) v1 v2 v3 v4 ?_
          rw [rgm_s, ← List.append_assoc]
          first
            | (rw [show bQf (mvW mp ((O.getD o ([], 0)).1.take d)) kd x3 x4 x6 (mc : Int) n pg cc f = _ from if_pos (nI_11 kd r1 7 (by decide) c_148), ← List.append_assoc]; exact T2)
            | (rw [show bQf (mvW mp ((O.getD o ([], 0)).1.take d)) kd x3 x4 x6 (mc : Int) n pg cc f = _ from (if_neg (fun e9 => c_148 (congrArg nI e9))).trans (if_pos (nI_11 kd r1 10 (by decide) c_185)), ← List.append_assoc]; exact T2)
            | (rw [show bQf (mvW mp ((O.getD o ([], 0)).1.take d)) kd x3 x4 x6 (mc : Int) n pg cc f = _ from (if_neg (fun e9 => c_148 (congrArg nI e9))).trans (if_neg (fun e9 => c_185 (congrArg nI e9))), ← List.append_assoc]; exact T2)
        · refine v_aload_n dX13_both_188 rfl 2 rfl ?_
          refine v_iconst (v := 1) dX13_both_189 (by decide) ?_
          refine v_iload dX13_both_190 0 rfl ?_
          refine v_iconst (v := 2) dX13_both_192 (by decide) ?_
          refine v_iadd dX13_both_193 ?_
          refine v_iconst (v := 0) dX13_both_194 (by decide) ?_
          refine v_iload dX13_both_195 0 rfl ?_
          refine v_lconst (v := 1) dX13_both_197 (by decide) ?_
          refine v_iconst (v := 1) dX13_both_198 (by decide) ?_
          refine v_callVq (M' := mX13_gaps) (n := 6) (As := [_, _, _, _, _, _]) (ci := 11) (r := (RX13, TX13, 71)) gX13_both_X13_gaps rfl (by decide +kernel) ⟨(Nat.le_of_ble_eq_true rfl), (Nat.le_of_ble_eq_true rfl)⟩ rfl rfl dX13_both_199 rfl ⟨(Nat.le_of_ble_eq_true rfl), (Nat.le_of_ble_eq_true rfl)⟩ (Nat.le_of_ble_eq_true rfl) (by first | with_reducible assumption) rfl (m_gapsL G _ b nc np pl R hm p3 p4 sz ly vo mp X Y hb fs0 hq0 MY O MO o ho how d hd h60 h61 mc hmc h62 hMB ri kd l1 l2 x3 x4 x5 x6 RU h58 hen 2 n pg cc LD LK 1 0 (f + 2) f (by decide) (by decide) (by omega) (by omega) 1 (by decide) 1 _ _ _ _ _ rfl rfl (sv_p2 f) rfl rfl h fs hm9 hl hE fr _ T) (fun v9 h1 z1 hq9 => ?_)
          obtain ⟨rfl, rfl, fs1, u1, u2, u3, u4, T1⟩ := hq9
          refine v_aload_n dX13_both_202 rfl 2 rfl ?_
          refine v_iconst (v := 0) dX13_both_203 (by decide) ?_
          refine v_iload dX13_both_204 0 rfl ?_
          refine v_iconst (v := 2) dX13_both_206 (by decide) ?_
          refine v_iadd dX13_both_207 ?_
          refine v_iconst (v := 1) dX13_both_208 (by decide) ?_
          refine v_iload dX13_both_209 0 rfl ?_
          refine v_lconst (v := 1) dX13_both_211 (by decide) ?_
          refine v_iconst (v := 1) dX13_both_212 (by decide) ?_
          refine v_callVq (M' := mX13_gaps) (n := 6) (As := [_, _, _, _, _, _]) (ci := 11) (r := (RX13, TX13, 71)) gX13_both_X13_gaps rfl (by decide +kernel) ⟨(Nat.le_of_ble_eq_true rfl), (Nat.le_of_ble_eq_true rfl)⟩ rfl rfl dX13_both_213 rfl ⟨(Nat.le_of_ble_eq_true rfl), (Nat.le_of_ble_eq_true rfl)⟩ (Nat.le_of_ble_eq_true rfl) (by first | with_reducible assumption) rfl (m_gapsL G _ b nc np pl R hm p3 p4 sz ly vo mp X Y hb fs0 hq0 MY O MO o ho how d hd h60 h61 mc hmc h62 hMB ri kd l1 l2 x3 x4 x5 x6 RU h58 hen 2 n pg cc LD LK 0 1 (f + 2) f (by decide) (by decide) (by omega) (by omega) 1 (by decide) 1 _ _ _ _ _ rfl rfl (sv_p2 f) rfl rfl h1 fs1 u1 u2 u3 u4 _ T1) (fun v9 h2 z2 hq9 => ?_)
          obtain ⟨rfl, rfl, fs2, v1, v2, v3, v4, T2⟩ := hq9
          refine v_goto (tgt := 247) dX13_both_216 (by decide) ?_
          refine v_iinc (j := 0) (L' := [(6, _), (1, _), (0, _)]) (v := nI (f + 1)) dX13_both_247 rfl (nI_1 _) (Nat.le_of_ble_eq_true rfl) rfl ?_
          refine v_goto (tgt := 139) dX13_both_250 (by decide) ?_
          refine v_sub (L' := [(6, _), (1, _), (0, _)]) [0, 1, 2] rfl ?_
          refine ih (f + 1) h2 fs2 (by omega) v1 v2 v3 v4 ?_
          rw [rgm_s, ← List.append_assoc]
          first
            | (rw [show bQf (mvW mp ((O.getD o ([], 0)).1.take d)) kd x3 x4 x6 (mc : Int) n pg cc f = _ from if_pos (nI_11 kd r1 7 (by decide) c_148), ← List.append_assoc]; exact T2)
            | (rw [show bQf (mvW mp ((O.getD o ([], 0)).1.take d)) kd x3 x4 x6 (mc : Int) n pg cc f = _ from (if_neg (fun e9 => c_148 (congrArg nI e9))).trans (if_pos (nI_11 kd r1 10 (by decide) c_185)), ← List.append_assoc]; exact T2)
            | (rw [show bQf (mvW mp ((O.getD o ([], 0)).1.take d)) kd x3 x4 x6 (mc : Int) n pg cc f = _ from (if_neg (fun e9 => c_148 (congrArg nI e9))).trans (if_neg (fun e9 => c_185 (congrArg nI e9))), ← List.append_assoc]; exact T2)
      · refine v_aload_n dX13_both_151 rfl 2 rfl ?_
        refine v_iconst (v := 0) dX13_both_152 (by decide) ?_
        refine v_iload dX13_both_153 0 rfl ?_
        refine v_iconst (v := 1) dX13_both_155 (by decide) ?_
        refine v_iload dX13_both_156 0 rfl ?_
        refine v_iconst (v := 2) dX13_both_158 (by decide) ?_
        refine v_iadd dX13_both_159 ?_
        refine v_lconst (v := 1) dX13_both_160 (by decide) ?_
        refine v_iconst (v := 0) dX13_both_161 (by decide) ?_
        refine v_callVq (M' := mX13_gaps) (n := 6) (As := [_, _, _, _, _, _]) (ci := 11) (r := (RX13, TX13, 71)) gX13_both_X13_gaps rfl (by decide +kernel) ⟨(Nat.le_of_ble_eq_true rfl), (Nat.le_of_ble_eq_true rfl)⟩ rfl rfl dX13_both_162 rfl ⟨(Nat.le_of_ble_eq_true rfl), (Nat.le_of_ble_eq_true rfl)⟩ (Nat.le_of_ble_eq_true rfl) (by first | with_reducible assumption) rfl (m_gapsL G _ b nc np pl R hm p3 p4 sz ly vo mp X Y hb fs0 hq0 MY O MO o ho how d hd h60 h61 mc hmc h62 hMB ri kd l1 l2 x3 x4 x5 x6 RU h58 hen 2 n pg cc LD LK 0 1 f (f + 2) (by decide) (by decide) (by omega) (by omega) 1 (by decide) 0 _ _ _ _ _ rfl rfl rfl (sv_p2 f) rfl h fs hm9 hl hE fr _ T) (fun v9 h1 z1 hq9 => ?_)
        obtain ⟨rfl, rfl, fs1, u1, u2, u3, u4, T1⟩ := hq9
        refine v_aload_n dX13_both_165 rfl 2 rfl ?_
        refine v_iconst (v := 1) dX13_both_166 (by decide) ?_
        refine v_iload dX13_both_167 0 rfl ?_
        refine v_iconst (v := 0) dX13_both_169 (by decide) ?_
        refine v_iload dX13_both_170 0 rfl ?_
        refine v_iconst (v := 2) dX13_both_172 (by decide) ?_
        refine v_iadd dX13_both_173 ?_
        refine v_lconst (v := 1) dX13_both_174 (by decide) ?_
        refine v_iconst (v := 0) dX13_both_175 (by decide) ?_
        refine v_callVq (M' := mX13_gaps) (n := 6) (As := [_, _, _, _, _, _]) (ci := 11) (r := (RX13, TX13, 71)) gX13_both_X13_gaps rfl (by decide +kernel) ⟨(Nat.le_of_ble_eq_true rfl), (Nat.le_of_ble_eq_true rfl)⟩ rfl rfl dX13_both_176 rfl ⟨(Nat.le_of_ble_eq_true rfl), (Nat.le_of_ble_eq_true rfl)⟩ (Nat.le_of_ble_eq_true rfl) (by first | with_reducible assumption) rfl (m_gapsL G _ b nc np pl R hm p3 p4 sz ly vo mp X Y hb fs0 hq0 MY O MO o ho how d hd h60 h61 mc hmc h62 hMB ri kd l1 l2 x3 x4 x5 x6 RU h58 hen 2 n pg cc LD LK 1 0 f (f + 2) (by decide) (by decide) (by omega) (by omega) 1 (by decide) 0 _ _ _ _ _ rfl rfl rfl (sv_p2 f) rfl h1 fs1 u1 u2 u3 u4 _ T1) (fun v9 h2 z2 hq9 => ?_)
        obtain ⟨rfl, rfl, fs2, v1, v2, v3, v4, T2⟩ := hq9
        refine v_goto (tgt := 247) dX13_both_179 (by decide) ?_
        refine v_iinc (j := 0) (L' := [(6, _), (1, _), (0, _)]) (v := nI (f + 1)) dX13_both_247 rfl (nI_1 _) (Nat.le_of_ble_eq_true rfl) rfl ?_
        refine v_goto (tgt := 139) dX13_both_250 (by decide) ?_
        refine v_sub (L' := [(6, _), (1, _), (0, _)]) [0, 1, 2] rfl ?_
        refine ih (f + 1) h2 fs2 (by omega) v1 v2 v3 v4 ?_
        rw [rgm_s, ← List.append_assoc]
        first
          | (rw [show bQf (mvW mp ((O.getD o ([], 0)).1.take d)) kd x3 x4 x6 (mc : Int) n pg cc f = _ from if_pos (nI_11 kd r1 7 (by decide) c_148), ← List.append_assoc]; exact T2)
          | (rw [show bQf (mvW mp ((O.getD o ([], 0)).1.take d)) kd x3 x4 x6 (mc : Int) n pg cc f = _ from (if_neg (fun e9 => c_148 (congrArg nI e9))).trans (if_pos (nI_11 kd r1 10 (by decide) c_185)), ← List.append_assoc]; exact T2)
          | (rw [show bQf (mvW mp ((O.getD o ([], 0)).1.take d)) kd x3 x4 x6 (mc : Int) n pg cc f = _ from (if_neg (fun e9 => c_148 (congrArg nI e9))).trans (if_neg (fun e9 => c_185 (congrArg nI e9))), ← List.append_assoc]; exact T2)

set_option maxHeartbeats 4000000 in
set_option maxRecDepth 100000 in
theorem t_bo117 (G : sv_G) (Qr : Option Value → sv_h → Nat → Prop) (z b nc np pl : Nat) (R : Nat → Bool) (hm p3 p4 sz : Nat → Nat) (ly vo : Nat → Int32) (mp : Nat → mvT) (X Y : Nat → Nat → Int) (hb : sv_h) (fs0 : List Value) (hq0 : mfq_ b nc np pl fs0) (MY : myl_ G hb b nc np pl R hm p3 p4 sz ly vo mp X Y) (O : List (List Nat × Nat)) (MO : moc_ G hb b O) (o : Nat) (ho : o < O.length) (how : ∀ i, i ∈ (O.getD o ([], 0)).1 → i < pl) (d : Nat) (hd : d ≤ (O.getD o ([], 0)).1.length) (h60 : fs0[60]? = some (.int (nI o))) (h61 : fs0[61]? = some (.int (nI d))) (mc : Nat) (hmc : mc < 100) (h62 : fs0[62]? = some (.int (nI mc))) (hMB : ∀ x y : Int, -200000 ≤ x ∧ x ≤ 200000 → -200000 ≤ y ∧ y ≤ 200000 → (-1000000000 ≤ (mvA (mvW mp ((O.getD o ([], 0)).1.take d)) (x, y)).1 ∧ (mvA (mvW mp ((O.getD o ([], 0)).1.take d)) (x, y)).1 ≤ 1000000000) ∧ (-1000000000 ≤ (mvA (mvW mp ((O.getD o ([], 0)).1.take d)) (x, y)).2 ∧ (mvA (mvW mp ((O.getD o ([], 0)).1.take d)) (x, y)).2 ≤ 1000000000)) (ri kd : Nat) (l1 l2 x3 x4 x5 x6 : Int32) (RU : mru_ G hb b ri kd l1 l2 x3 x4 x5 x6) (h58 : fs0[58]? = some (.int (nI ri))) (hen : x6 = -1 ∨ 0 ≤ x6) (n pg : Nat → Nat) (cc : Nat → Nat → Int × Int) (LD : mld_ G hb b 2 n pg cc) (LK : mlk_ 2 n pg cc) (hm9 : hb (b + 220) = some (.inr (11, fs0))) (E0 : List (List Int64)) (T : mT_ gu G hb b fs0 E0) (hk : ∀ (h : sv_h) (fs : List Value), h (b + 220) = some (.inr (11, fs)) → fs.length = 71 → fsE [28, 29, 52, 53] fs0 fs → (∀ a, a ≠ b + 220 → a ≠ b + 241 → h a = hb a) → mT_ gu G h b fs (E0 ++ bQ0 (mvW mp ((O.getD o ([], 0)).1.take d)) kd x3 x4 x6 (mc : Int) n pg cc) → Qr none h z) : V G mX13_both (sv_MQ G mX13_both Qr) 117 [(1, .int (nI kd)), (0, .ref (b + 220))] [] hb z 0 0 := by
  have r1 := RU.2.1
  refine v_iload_n dX13_both_117 rfl 0 rfl ?_
  refine v_bipush (v := 8) dX13_both_118 (by decide) ?_
  refine v_icmp_ne (tgt := 136) dX13_both_120 (by decide) (fun c_120 => ?_) (fun c_120 => ?_)
  · refine v_iconst (v := 0) dX13_both_136 (by decide) ?_
    refine v_istore (L' := [(6, _), (1, _), (0, _)]) dX13_both_137 (Nat.le_of_ble_eq_true rfl) rfl ?_
    refine v_sub (L' := [(6, _), (1, _), (0, _)]) [0, 1, 2] rfl ?_
    have h8 : ¬ kd = 8 := fun e9 => c_120 (congrArg nI e9)
    exact l_boF G _ _ b nc np pl R hm p3 p4 sz ly vo mp X Y hb fs0 hq0 MY O MO o ho how d hd h60 h61 mc hmc h62 hMB ri kd l1 l2 x3 x4 x5 x6 RU h58 hen n pg cc LD LK h8 E0 (fun h2 fs2 v1 v2 v3 v4 v5 => hk h2 fs2 v1 v2 v3 v4 (by rw [show bQ0 (mvW mp ((O.getD o ([], 0)).1.take d)) kd x3 x4 x6 (mc : Int) n pg cc = _ from if_neg h8]; exact v5)) 2 0 hb fs0 (by omega) hm9 hq0.1 fsE.rf (fun _ _ _ => rfl) (by rw [List.range_zero, List.flatMap_nil, List.append_nil]; exact T)
  · refine v_aload_n dX13_both_123 rfl 1 rfl ?_
    refine v_iconst (v := 0) dX13_both_124 (by decide) ?_
    refine v_iconst (v := 1) dX13_both_125 (by decide) ?_
    refine v_callVq (M' := mX13_corners) (n := 2) (As := [_, _]) (ci := 11) (r := (RX13, TX13, 71)) gX13_both_X13_corners rfl (by decide +kernel) ⟨(Nat.le_of_ble_eq_true rfl), (Nat.le_of_ble_eq_true rfl)⟩ rfl rfl dX13_both_126 rfl ⟨(Nat.le_of_ble_eq_true rfl), (Nat.le_of_ble_eq_true rfl)⟩ (Nat.le_of_ble_eq_true rfl) (by first | with_reducible assumption) rfl (m_cornersL G _ b nc np pl R hm p3 p4 sz ly vo mp X Y hb fs0 hq0 MY O MO o ho how d hd h60 h61 mc hmc h62 hMB ri kd l1 l2 x3 x4 x5 x6 RU h58 hen 2 n pg cc LD LK 0 1 (by decide) (by decide) _ _ rfl rfl hb fs0 hm9 hq0.1 fsE.rf (fun _ _ _ => rfl) _ T) (fun v9 h1 z1 hq9 => ?_)
    obtain ⟨rfl, rfl, fs1, u1, u2, u3, u4, T1⟩ := hq9
    refine v_aload_n dX13_both_129 rfl 1 rfl ?_
    refine v_iconst (v := 1) dX13_both_130 (by decide) ?_
    refine v_iconst (v := 0) dX13_both_131 (by decide) ?_
    refine v_callVq (M' := mX13_corners) (n := 2) (As := [_, _]) (ci := 11) (r := (RX13, TX13, 71)) gX13_both_X13_corners rfl (by decide +kernel) ⟨(Nat.le_of_ble_eq_true rfl), (Nat.le_of_ble_eq_true rfl)⟩ rfl rfl dX13_both_132 rfl ⟨(Nat.le_of_ble_eq_true rfl), (Nat.le_of_ble_eq_true rfl)⟩ (Nat.le_of_ble_eq_true rfl) (by first | with_reducible assumption) rfl (m_cornersL G _ b nc np pl R hm p3 p4 sz ly vo mp X Y hb fs0 hq0 MY O MO o ho how d hd h60 h61 mc hmc h62 hMB ri kd l1 l2 x3 x4 x5 x6 RU h58 hen 2 n pg cc LD LK 1 0 (by decide) (by decide) _ _ rfl rfl h1 fs1 u1 u2 u3 u4 _ T1) (fun v9 h2 z2 hq9 => ?_)
    obtain ⟨rfl, rfl, fs2, v1, v2, v3, v4, T2⟩ := hq9
    exact v_ret rfl dX13_both_135 (Nat.le_of_ble_eq_true rfl) (Nat.le_of_ble_eq_true rfl) (hk h2 fs2 v1 v2 v3 v4 (by rw [show bQ0 (mvW mp ((O.getD o ([], 0)).1.take d)) kd x3 x4 x6 (mc : Int) n pg cc = _ from if_pos (nI_11 kd r1 8 (by decide) c_120), ← List.append_assoc]; exact T2))

set_option maxHeartbeats 4000000 in
set_option maxRecDepth 100000 in
theorem t_bo106 (G : sv_G) (Qr : Option Value → sv_h → Nat → Prop) (z b nc np pl : Nat) (R : Nat → Bool) (hm p3 p4 sz : Nat → Nat) (ly vo : Nat → Int32) (mp : Nat → mvT) (X Y : Nat → Nat → Int) (hb : sv_h) (fs0 : List Value) (hq0 : mfq_ b nc np pl fs0) (MY : myl_ G hb b nc np pl R hm p3 p4 sz ly vo mp X Y) (O : List (List Nat × Nat)) (MO : moc_ G hb b O) (o : Nat) (ho : o < O.length) (how : ∀ i, i ∈ (O.getD o ([], 0)).1 → i < pl) (d : Nat) (hd : d ≤ (O.getD o ([], 0)).1.length) (h60 : fs0[60]? = some (.int (nI o))) (h61 : fs0[61]? = some (.int (nI d))) (mc : Nat) (hmc : mc < 100) (h62 : fs0[62]? = some (.int (nI mc))) (hMB : ∀ x y : Int, -200000 ≤ x ∧ x ≤ 200000 → -200000 ≤ y ∧ y ≤ 200000 → (-1000000000 ≤ (mvA (mvW mp ((O.getD o ([], 0)).1.take d)) (x, y)).1 ∧ (mvA (mvW mp ((O.getD o ([], 0)).1.take d)) (x, y)).1 ≤ 1000000000) ∧ (-1000000000 ≤ (mvA (mvW mp ((O.getD o ([], 0)).1.take d)) (x, y)).2 ∧ (mvA (mvW mp ((O.getD o ([], 0)).1.take d)) (x, y)).2 ≤ 1000000000)) (ri kd : Nat) (l1 l2 x3 x4 x5 x6 : Int32) (RU : mru_ G hb b ri kd l1 l2 x3 x4 x5 x6) (h58 : fs0[58]? = some (.int (nI ri))) (hen : x6 = -1 ∨ 0 ≤ x6) (n pg : Nat → Nat) (cc : Nat → Nat → Int × Int) (LD : mld_ G hb b 2 n pg cc) (LK : mlk_ 2 n pg cc) (hm9 : hb (b + 220) = some (.inr (11, fs0))) (E0 : List (List Int64)) (T : mT_ gu G hb b fs0 E0) (hk : ∀ (h : sv_h) (fs : List Value), h (b + 220) = some (.inr (11, fs)) → fs.length = 71 → fsE [28, 29, 52, 53] fs0 fs → (∀ a, a ≠ b + 220 → a ≠ b + 241 → h a = hb a) → mT_ gu G h b fs (E0 ++ bQ (mvW mp ((O.getD o ([], 0)).1.take d)) kd x3 x4 x5 x6 (mc : Int) n pg cc vo) → Qr none h z) : V G mX13_both (sv_MQ G mX13_both Qr) 106 [(5, .int (if (¬ (kd = 9 ∨ kd = 10) ∨ bxV (cc 0) (cc 1) (n 0) (n 1)) then 1 else 0)), (4, .int (if tnM x5 (vo (pg 0)) (vo (pg 1)) then 1 else 0)), (1, .int (nI kd)), (0, .ref (b + 220))] [] hb z 0 0 := by
  refine v_iload dX13_both_106 1 rfl ?_
  refine v_if_eq (tgt := 116) dX13_both_108 (by decide) (fun c_108 => ?_) (fun c_108 => ?_)
  · exact v_ret rfl dX13_both_116 (Nat.le_of_ble_eq_true rfl) (Nat.le_of_ble_eq_true rfl) (hk hb fs0 hm9 hq0.1 fsE.rf (fun _ _ _ => rfl) (by rw [show bQ (mvW mp ((O.getD o ([], 0)).1.take d)) kd x3 x4 x5 x6 (mc : Int) n pg cc vo = [] from if_neg (fun e9 => by first | (rw [if_pos e9.1] at c_108; exact absurd c_108 (by decide)) | (rw [if_pos e9.2] at c_113; exact absurd c_113 (by decide))), List.append_nil]; exact T))
  · refine v_iload dX13_both_111 0 rfl ?_
    refine v_if_ne (tgt := 117) dX13_both_113 (by decide) (fun c_113 => ?_) (fun c_113 => ?_)
    · refine v_sub (L' := [(1, _), (0, _)]) [2, 3] rfl ?_
      exact t_bo117 G _ _ b nc np pl R hm p3 p4 sz ly vo mp X Y hb fs0 hq0 MY O MO o ho how d hd h60 h61 mc hmc h62 hMB ri kd l1 l2 x3 x4 x5 x6 RU h58 hen n pg cc LD LK hm9 E0 T (fun h2 fs2 v1 v2 v3 v4 v5 => hk h2 fs2 v1 v2 v3 v4 (by rw [show bQ (mvW mp ((O.getD o ([], 0)).1.take d)) kd x3 x4 x5 x6 (mc : Int) n pg cc vo = bQ0 (mvW mp ((O.getD o ([], 0)).1.take d)) kd x3 x4 x6 (mc : Int) n pg cc from if_pos ⟨Decidable.of_not_not (fun e9 => c_108 (if_neg e9)), Decidable.of_not_not (fun e9 => c_113 (if_neg e9))⟩]; exact v5))
    · exact v_ret rfl dX13_both_116 (Nat.le_of_ble_eq_true rfl) (Nat.le_of_ble_eq_true rfl) (hk hb fs0 hm9 hq0.1 fsE.rf (fun _ _ _ => rfl) (by rw [show bQ (mvW mp ((O.getD o ([], 0)).1.take d)) kd x3 x4 x5 x6 (mc : Int) n pg cc vo = [] from if_neg (fun e9 => by first | (rw [if_pos e9.1] at c_108; exact absurd c_108 (by decide)) | (rw [if_pos e9.2] at c_113; exact absurd c_113 (by decide))), List.append_nil]; exact T))

set_option maxHeartbeats 4000000 in
set_option maxRecDepth 100000 in
theorem t_bo80 (G : sv_G) (Qr : Option Value → sv_h → Nat → Prop) (z b nc np pl : Nat) (R : Nat → Bool) (hm p3 p4 sz : Nat → Nat) (ly vo : Nat → Int32) (mp : Nat → mvT) (X Y : Nat → Nat → Int) (hb : sv_h) (fs0 : List Value) (hq0 : mfq_ b nc np pl fs0) (MY : myl_ G hb b nc np pl R hm p3 p4 sz ly vo mp X Y) (O : List (List Nat × Nat)) (MO : moc_ G hb b O) (o : Nat) (ho : o < O.length) (how : ∀ i, i ∈ (O.getD o ([], 0)).1 → i < pl) (d : Nat) (hd : d ≤ (O.getD o ([], 0)).1.length) (h60 : fs0[60]? = some (.int (nI o))) (h61 : fs0[61]? = some (.int (nI d))) (mc : Nat) (hmc : mc < 100) (h62 : fs0[62]? = some (.int (nI mc))) (hMB : ∀ x y : Int, -200000 ≤ x ∧ x ≤ 200000 → -200000 ≤ y ∧ y ≤ 200000 → (-1000000000 ≤ (mvA (mvW mp ((O.getD o ([], 0)).1.take d)) (x, y)).1 ∧ (mvA (mvW mp ((O.getD o ([], 0)).1.take d)) (x, y)).1 ≤ 1000000000) ∧ (-1000000000 ≤ (mvA (mvW mp ((O.getD o ([], 0)).1.take d)) (x, y)).2 ∧ (mvA (mvW mp ((O.getD o ([], 0)).1.take d)) (x, y)).2 ≤ 1000000000)) (ri kd : Nat) (l1 l2 x3 x4 x5 x6 : Int32) (RU : mru_ G hb b ri kd l1 l2 x3 x4 x5 x6) (h58 : fs0[58]? = some (.int (nI ri))) (hen : x6 = -1 ∨ 0 ≤ x6) (n pg : Nat → Nat) (cc : Nat → Nat → Int × Int) (LD : mld_ G hb b 2 n pg cc) (LK : mlk_ 2 n pg cc) (hm9 : hb (b + 220) = some (.inr (11, fs0))) (E0 : List (List Int64)) (T : mT_ gu G hb b fs0 E0) (hk : ∀ (h : sv_h) (fs : List Value), h (b + 220) = some (.inr (11, fs)) → fs.length = 71 → fsE [28, 29, 52, 53, 54, 55, 56, 57] fs0 fs → (∀ a, a ≠ b + 220 → a ≠ b + 241 → h a = hb a) → mT_ gu G h b fs (E0 ++ bQ (mvW mp ((O.getD o ([], 0)).1.take d)) kd x3 x4 x5 x6 (mc : Int) n pg cc vo) → Qr none h z) : V G mX13_both (sv_MQ G mX13_both Qr) 80 [(4, .int (if tnM x5 (vo (pg 0)) (vo (pg 1)) then 1 else 0)), (1, .int (nI kd)), (0, .ref (b + 220))] [] hb z 0 0 := by
  obtain ⟨k0, k1⟩ := id LK
  obtain ⟨fsd, fo, ft, ff, gx, gy, gp, gl, gh, d49, d50, d51, d52, d53, d54, d55, d56, d57, dd⟩ := id LD
  obtain ⟨⟨zv1, zv2⟩, pv, cv⟩ := k1 0 (by decide)
  obtain ⟨⟨zw1, zw2⟩, pw, cw⟩ := k1 1 (by decide)
  obtain ⟨sv1, sv2, sv3, sv4, sv5⟩ := dd 0 (by decide)
  obtain ⟨sw1, sw2, sw3, sw4, sw5⟩ := dd 1 (by decide)
  have r1 := RU.2.1
  refine v_iload_n dX13_both_80 rfl 1 rfl ?_
  refine v_bipush (v := 9) dX13_both_81 (by decide) ?_
  refine v_icmp_eq (tgt := 92) dX13_both_83 (by decide) (fun c_83 => ?_) (fun c_83 => ?_)
  · refine v_aload_n dX13_both_92 rfl 2 rfl ?_
    refine v_callVq (M' := mX13_areBoxesOver) (n := 0) (As := []) (ci := 11) (r := (RX13, TX13, 71)) gX13_both_X13_areBoxesOver rfl (by decide +kernel) ⟨(Nat.le_of_ble_eq_true rfl), (Nat.le_of_ble_eq_true rfl)⟩ rfl rfl dX13_both_93 rfl ⟨(Nat.le_of_ble_eq_true rfl), (Nat.le_of_ble_eq_true rfl)⟩ (Nat.le_of_ble_eq_true rfl) (by first | with_reducible assumption) rfl (m_boxesOver G _ b nc np pl hb fs0 hq0 hm9 (n 0) (n 1) zv2 zv1 zw2 zw1 (cc 0) (cc 1) (fun i hi => cv i (by omega)) (fun i hi => cw i (by omega)) fsd d49 sv1 sw1 gx gy d50 d51 (fun k hk9 => sv4 k (by omega)) (fun k hk9 => sw4 k (by omega))) (fun v9 h1 z1 hq9 => ?_)
    obtain ⟨rfl, rfl, ⟨fs1, u1, u2, u3⟩, u4⟩ := hq9
    refine v_if_eq (tgt := 103) dX13_both_96 (by decide) (fun c_96 => ?_) (fun c_96 => ?_)
    · refine v_iconst (v := 0) dX13_both_103 (by decide) ?_
      refine v_istore (L' := [(5, _), (4, _), (1, _), (0, _)]) dX13_both_104 (Nat.le_of_ble_eq_true rfl) rfl ?_
      refine v_sub (L' := [(5, _), (4, _), (1, _), (0, _)]) [0, 1, 2, 3] rfl ?_
      first
        | (have hh := t_bo106 G Qr z1 b nc np pl R hm p3 p4 sz ly vo mp X Y h1 fs1 (hq0.to u2 u3 (by decide)) (MY.kp (fun a p1 p2 => u4 a (by omega))) O (MO.kp (fun a p1 p2 => u4 a (by omega))) o ho how d hd ((u3 60 (by decide)).trans h60) ((u3 61 (by decide)).trans h61) mc hmc ((u3 62 (by decide)).trans h62) hMB ri kd l1 l2 x3 x4 x5 x6 (RU.kp (fun a p1 p2 => u4 a (by omega))) ((u3 58 (by decide)).trans h58) hen n pg cc (LD.kp (fun a p1 p2 => u4 a (by omega))) LK u1 E0 (T.kp (u4 _ (by omega)) (u3 28 (by decide)) (u3 29 (by decide))) (fun h2 fs2 v1 v2 v3 v4 v5 => hk h2 fs2 v1 v2 ((u3.up (by decide)).tr (v3.up (by decide))) (fun a p1 p2 => (v4 a p1 p2).trans (u4 a p1)) v5)
           first
             | (rw [if_pos (show (¬ (kd = 9 ∨ kd = 10) ∨ bxV (cc 0) (cc 1) (n 0) (n 1)) from Or.inr (Decidable.of_not_not (fun e9 => c_96 (if_neg e9))))] at hh; exact hh)
             | (rw [if_neg (show ¬ (¬ (kd = 9 ∨ kd = 10) ∨ bxV (cc 0) (cc 1) (n 0) (n 1)) from fun e9 => by
                  rcases e9 with e8 | e8
                  · first
                      | exact e8 (Or.inl (nI_11 kd r1 9 (by decide) c_83))
                      | exact e8 (Or.inr (nI_11 kd r1 10 (by decide) c_89))
                  · rw [if_pos e8] at c_96; exact absurd c_96 (by decide))] at hh; exact hh))
        | (have hh := t_bo106 G Qr z b nc np pl R hm p3 p4 sz ly vo mp X Y hb fs0 hq0 MY O MO o ho how d hd h60 h61 mc hmc h62 hMB ri kd l1 l2 x3 x4 x5 x6 RU h58 hen n pg cc LD LK hm9 E0 T (fun h2 fs2 v1 v2 v3 v4 v5 => hk h2 fs2 v1 v2 (v3.up (by decide)) v4 v5)
           rw [if_pos (show (¬ (kd = 9 ∨ kd = 10) ∨ bxV (cc 0) (cc 1) (n 0) (n 1)) from Or.inl (fun e9 => by
             rcases e9 with e8 | e8
             · exact c_83 (congrArg nI e8)
             · exact c_89 (congrArg nI e8)))] at hh
           exact hh)
    · refine v_iconst (v := 1) dX13_both_99 (by decide) ?_
      refine v_goto (tgt := 104) dX13_both_100 (by decide) ?_
      refine v_istore (L' := [(5, _), (4, _), (1, _), (0, _)]) dX13_both_104 (Nat.le_of_ble_eq_true rfl) rfl ?_
      refine v_sub (L' := [(5, _), (4, _), (1, _), (0, _)]) [0, 1, 2, 3] rfl ?_
      first
        | (have hh := t_bo106 G Qr z1 b nc np pl R hm p3 p4 sz ly vo mp X Y h1 fs1 (hq0.to u2 u3 (by decide)) (MY.kp (fun a p1 p2 => u4 a (by omega))) O (MO.kp (fun a p1 p2 => u4 a (by omega))) o ho how d hd ((u3 60 (by decide)).trans h60) ((u3 61 (by decide)).trans h61) mc hmc ((u3 62 (by decide)).trans h62) hMB ri kd l1 l2 x3 x4 x5 x6 (RU.kp (fun a p1 p2 => u4 a (by omega))) ((u3 58 (by decide)).trans h58) hen n pg cc (LD.kp (fun a p1 p2 => u4 a (by omega))) LK u1 E0 (T.kp (u4 _ (by omega)) (u3 28 (by decide)) (u3 29 (by decide))) (fun h2 fs2 v1 v2 v3 v4 v5 => hk h2 fs2 v1 v2 ((u3.up (by decide)).tr (v3.up (by decide))) (fun a p1 p2 => (v4 a p1 p2).trans (u4 a p1)) v5)
           first
             | (rw [if_pos (show (¬ (kd = 9 ∨ kd = 10) ∨ bxV (cc 0) (cc 1) (n 0) (n 1)) from Or.inr (Decidable.of_not_not (fun e9 => c_96 (if_neg e9))))] at hh; exact hh)
             | (rw [if_neg (show ¬ (¬ (kd = 9 ∨ kd = 10) ∨ bxV (cc 0) (cc 1) (n 0) (n 1)) from fun e9 => by
                  rcases e9 with e8 | e8
                  · first
                      | exact e8 (Or.inl (nI_11 kd r1 9 (by decide) c_83))
                      | exact e8 (Or.inr (nI_11 kd r1 10 (by decide) c_89))
                  · rw [if_pos e8] at c_96; exact absurd c_96 (by decide))] at hh; exact hh))
        | (have hh := t_bo106 G Qr z b nc np pl R hm p3 p4 sz ly vo mp X Y hb fs0 hq0 MY O MO o ho how d hd h60 h61 mc hmc h62 hMB ri kd l1 l2 x3 x4 x5 x6 RU h58 hen n pg cc LD LK hm9 E0 T (fun h2 fs2 v1 v2 v3 v4 v5 => hk h2 fs2 v1 v2 (v3.up (by decide)) v4 v5)
           rw [if_pos (show (¬ (kd = 9 ∨ kd = 10) ∨ bxV (cc 0) (cc 1) (n 0) (n 1)) from Or.inl (fun e9 => by
             rcases e9 with e8 | e8
             · exact c_83 (congrArg nI e8)
             · exact c_89 (congrArg nI e8)))] at hh
           exact hh)
  · refine v_iload_n dX13_both_86 rfl 1 rfl ?_
    refine v_bipush (v := 10) dX13_both_87 (by decide) ?_
    refine v_icmp_ne (tgt := 99) dX13_both_89 (by decide) (fun c_89 => ?_) (fun c_89 => ?_)
    · refine v_iconst (v := 1) dX13_both_99 (by decide) ?_
      refine v_goto (tgt := 104) dX13_both_100 (by decide) ?_
      refine v_istore (L' := [(5, _), (4, _), (1, _), (0, _)]) dX13_both_104 (Nat.le_of_ble_eq_true rfl) rfl ?_
      refine v_sub (L' := [(5, _), (4, _), (1, _), (0, _)]) [0, 1, 2, 3] rfl ?_
      first
        | (have hh := t_bo106 G Qr z1 b nc np pl R hm p3 p4 sz ly vo mp X Y h1 fs1 (hq0.to u2 u3 (by decide)) (MY.kp (fun a p1 p2 => u4 a (by omega))) O (MO.kp (fun a p1 p2 => u4 a (by omega))) o ho how d hd ((u3 60 (by decide)).trans h60) ((u3 61 (by decide)).trans h61) mc hmc ((u3 62 (by decide)).trans h62) hMB ri kd l1 l2 x3 x4 x5 x6 (RU.kp (fun a p1 p2 => u4 a (by omega))) ((u3 58 (by decide)).trans h58) hen n pg cc (LD.kp (fun a p1 p2 => u4 a (by omega))) LK u1 E0 (T.kp (u4 _ (by omega)) (u3 28 (by decide)) (u3 29 (by decide))) (fun h2 fs2 v1 v2 v3 v4 v5 => hk h2 fs2 v1 v2 ((u3.up (by decide)).tr (v3.up (by decide))) (fun a p1 p2 => (v4 a p1 p2).trans (u4 a p1)) v5)
           first
             | (rw [if_pos (show (¬ (kd = 9 ∨ kd = 10) ∨ bxV (cc 0) (cc 1) (n 0) (n 1)) from Or.inr (Decidable.of_not_not (fun e9 => c_96 (if_neg e9))))] at hh; exact hh)
             | (rw [if_neg (show ¬ (¬ (kd = 9 ∨ kd = 10) ∨ bxV (cc 0) (cc 1) (n 0) (n 1)) from fun e9 => by
                  rcases e9 with e8 | e8
                  · first
                      | exact e8 (Or.inl (nI_11 kd r1 9 (by decide) c_83))
                      | exact e8 (Or.inr (nI_11 kd r1 10 (by decide) c_89))
                  · rw [if_pos e8] at c_96; exact absurd c_96 (by decide))] at hh; exact hh))
        | (have hh := t_bo106 G Qr z b nc np pl R hm p3 p4 sz ly vo mp X Y hb fs0 hq0 MY O MO o ho how d hd h60 h61 mc hmc h62 hMB ri kd l1 l2 x3 x4 x5 x6 RU h58 hen n pg cc LD LK hm9 E0 T (fun h2 fs2 v1 v2 v3 v4 v5 => hk h2 fs2 v1 v2 (v3.up (by decide)) v4 v5)
           rw [if_pos (show (¬ (kd = 9 ∨ kd = 10) ∨ bxV (cc 0) (cc 1) (n 0) (n 1)) from Or.inl (fun e9 => by
             rcases e9 with e8 | e8
             · exact c_83 (congrArg nI e8)
             · exact c_89 (congrArg nI e8)))] at hh
           exact hh)
    · refine v_aload_n dX13_both_92 rfl 2 rfl ?_
      refine v_callVq (M' := mX13_areBoxesOver) (n := 0) (As := []) (ci := 11) (r := (RX13, TX13, 71)) gX13_both_X13_areBoxesOver rfl (by decide +kernel) ⟨(Nat.le_of_ble_eq_true rfl), (Nat.le_of_ble_eq_true rfl)⟩ rfl rfl dX13_both_93 rfl ⟨(Nat.le_of_ble_eq_true rfl), (Nat.le_of_ble_eq_true rfl)⟩ (Nat.le_of_ble_eq_true rfl) (by first | with_reducible assumption) rfl (m_boxesOver G _ b nc np pl hb fs0 hq0 hm9 (n 0) (n 1) zv2 zv1 zw2 zw1 (cc 0) (cc 1) (fun i hi => cv i (by omega)) (fun i hi => cw i (by omega)) fsd d49 sv1 sw1 gx gy d50 d51 (fun k hk9 => sv4 k (by omega)) (fun k hk9 => sw4 k (by omega))) (fun v9 h1 z1 hq9 => ?_)
      obtain ⟨rfl, rfl, ⟨fs1, u1, u2, u3⟩, u4⟩ := hq9
      refine v_if_eq (tgt := 103) dX13_both_96 (by decide) (fun c_96 => ?_) (fun c_96 => ?_)
      · refine v_iconst (v := 0) dX13_both_103 (by decide) ?_
        refine v_istore (L' := [(5, _), (4, _), (1, _), (0, _)]) dX13_both_104 (Nat.le_of_ble_eq_true rfl) rfl ?_
        refine v_sub (L' := [(5, _), (4, _), (1, _), (0, _)]) [0, 1, 2, 3] rfl ?_
        first
          | (have hh := t_bo106 G Qr z1 b nc np pl R hm p3 p4 sz ly vo mp X Y h1 fs1 (hq0.to u2 u3 (by decide)) (MY.kp (fun a p1 p2 => u4 a (by omega))) O (MO.kp (fun a p1 p2 => u4 a (by omega))) o ho how d hd ((u3 60 (by decide)).trans h60) ((u3 61 (by decide)).trans h61) mc hmc ((u3 62 (by decide)).trans h62) hMB ri kd l1 l2 x3 x4 x5 x6 (RU.kp (fun a p1 p2 => u4 a (by omega))) ((u3 58 (by decide)).trans h58) hen n pg cc (LD.kp (fun a p1 p2 => u4 a (by omega))) LK u1 E0 (T.kp (u4 _ (by omega)) (u3 28 (by decide)) (u3 29 (by decide))) (fun h2 fs2 v1 v2 v3 v4 v5 => hk h2 fs2 v1 v2 ((u3.up (by decide)).tr (v3.up (by decide))) (fun a p1 p2 => (v4 a p1 p2).trans (u4 a p1)) v5)
             first
               | (rw [if_pos (show (¬ (kd = 9 ∨ kd = 10) ∨ bxV (cc 0) (cc 1) (n 0) (n 1)) from Or.inr (Decidable.of_not_not (fun e9 => c_96 (if_neg e9))))] at hh; exact hh)
               | (rw [if_neg (show ¬ (¬ (kd = 9 ∨ kd = 10) ∨ bxV (cc 0) (cc 1) (n 0) (n 1)) from fun e9 => by
                    rcases e9 with e8 | e8
                    · first
                        | exact e8 (Or.inl (nI_11 kd r1 9 (by decide) c_83))
                        | exact e8 (Or.inr (nI_11 kd r1 10 (by decide) c_89))
                    · rw [if_pos e8] at c_96; exact absurd c_96 (by decide))] at hh; exact hh))
          | (have hh := t_bo106 G Qr z b nc np pl R hm p3 p4 sz ly vo mp X Y hb fs0 hq0 MY O MO o ho how d hd h60 h61 mc hmc h62 hMB ri kd l1 l2 x3 x4 x5 x6 RU h58 hen n pg cc LD LK hm9 E0 T (fun h2 fs2 v1 v2 v3 v4 v5 => hk h2 fs2 v1 v2 (v3.up (by decide)) v4 v5)
             rw [if_pos (show (¬ (kd = 9 ∨ kd = 10) ∨ bxV (cc 0) (cc 1) (n 0) (n 1)) from Or.inl (fun e9 => by
               rcases e9 with e8 | e8
               · exact c_83 (congrArg nI e8)
               · exact c_89 (congrArg nI e8)))] at hh
             exact hh)
      · refine v_iconst (v := 1) dX13_both_99 (by decide) ?_
        refine v_goto (tgt := 104) dX13_both_100 (by decide) ?_
        refine v_istore (L' := [(5, _), (4, _), (1, _), (0, _)]) dX13_both_104 (Nat.le_of_ble_eq_true rfl) rfl ?_
        refine v_sub (L' := [(5, _), (4, _), (1, _), (0, _)]) [0, 1, 2, 3] rfl ?_
        first
          | (have hh := t_bo106 G Qr z1 b nc np pl R hm p3 p4 sz ly vo mp X Y h1 fs1 (hq0.to u2 u3 (by decide)) (MY.kp (fun a p1 p2 => u4 a (by omega))) O (MO.kp (fun a p1 p2 => u4 a (by omega))) o ho how d hd ((u3 60 (by decide)).trans h60) ((u3 61 (by decide)).trans h61) mc hmc ((u3 62 (by decide)).trans h62) hMB ri kd l1 l2 x3 x4 x5 x6 (RU.kp (fun a p1 p2 => u4 a (by omega))) ((u3 58 (by decide)).trans h58) hen n pg cc (LD.kp (fun a p1 p2 => u4 a (by omega))) LK u1 E0 (T.kp (u4 _ (by omega)) (u3 28 (by decide)) (u3 29 (by decide))) (fun h2 fs2 v1 v2 v3 v4 v5 => hk h2 fs2 v1 v2 ((u3.up (by decide)).tr (v3.up (by decide))) (fun a p1 p2 => (v4 a p1 p2).trans (u4 a p1)) v5)
             first
               | (rw [if_pos (show (¬ (kd = 9 ∨ kd = 10) ∨ bxV (cc 0) (cc 1) (n 0) (n 1)) from Or.inr (Decidable.of_not_not (fun e9 => c_96 (if_neg e9))))] at hh; exact hh)
               | (rw [if_neg (show ¬ (¬ (kd = 9 ∨ kd = 10) ∨ bxV (cc 0) (cc 1) (n 0) (n 1)) from fun e9 => by
                    rcases e9 with e8 | e8
                    · first
                        | exact e8 (Or.inl (nI_11 kd r1 9 (by decide) c_83))
                        | exact e8 (Or.inr (nI_11 kd r1 10 (by decide) c_89))
                    · rw [if_pos e8] at c_96; exact absurd c_96 (by decide))] at hh; exact hh))
          | (have hh := t_bo106 G Qr z b nc np pl R hm p3 p4 sz ly vo mp X Y hb fs0 hq0 MY O MO o ho how d hd h60 h61 mc hmc h62 hMB ri kd l1 l2 x3 x4 x5 x6 RU h58 hen n pg cc LD LK hm9 E0 T (fun h2 fs2 v1 v2 v3 v4 v5 => hk h2 fs2 v1 v2 (v3.up (by decide)) v4 v5)
             rw [if_pos (show (¬ (kd = 9 ∨ kd = 10) ∨ bxV (cc 0) (cc 1) (n 0) (n 1)) from Or.inl (fun e9 => by
               rcases e9 with e8 | e8
               · exact c_83 (congrArg nI e8)
               · exact c_89 (congrArg nI e8)))] at hh
             exact hh)

set_option maxHeartbeats 4000000 in
set_option maxRecDepth 100000 in
theorem m_both (G : sv_G) (z b nc np pl : Nat) (R : Nat → Bool) (hm p3 p4 sz : Nat → Nat) (ly vo : Nat → Int32) (mp : Nat → mvT) (X Y : Nat → Nat → Int) (hb : sv_h) (fs0 : List Value) (hq0 : mfq_ b nc np pl fs0) (MY : myl_ G hb b nc np pl R hm p3 p4 sz ly vo mp X Y) (O : List (List Nat × Nat)) (MO : moc_ G hb b O) (o : Nat) (ho : o < O.length) (how : ∀ i, i ∈ (O.getD o ([], 0)).1 → i < pl) (d : Nat) (hd : d ≤ (O.getD o ([], 0)).1.length) (h60 : fs0[60]? = some (.int (nI o))) (h61 : fs0[61]? = some (.int (nI d))) (mc : Nat) (hmc : mc < 100) (h62 : fs0[62]? = some (.int (nI mc))) (hMB : ∀ x y : Int, -200000 ≤ x ∧ x ≤ 200000 → -200000 ≤ y ∧ y ≤ 200000 → (-1000000000 ≤ (mvA (mvW mp ((O.getD o ([], 0)).1.take d)) (x, y)).1 ∧ (mvA (mvW mp ((O.getD o ([], 0)).1.take d)) (x, y)).1 ≤ 1000000000) ∧ (-1000000000 ≤ (mvA (mvW mp ((O.getD o ([], 0)).1.take d)) (x, y)).2 ∧ (mvA (mvW mp ((O.getD o ([], 0)).1.take d)) (x, y)).2 ≤ 1000000000)) (ri kd : Nat) (l1 l2 x3 x4 x5 x6 : Int32) (RU : mru_ G hb b ri kd l1 l2 x3 x4 x5 x6) (h58 : fs0[58]? = some (.int (nI ri))) (hen : x6 = -1 ∨ 0 ≤ x6) (n pg : Nat → Nat) (cc : Nat → Nat → Int × Int) (LD : mld_ G hb b 2 n pg cc) (LK : mlk_ 2 n pg cc) (hp0 : pg 0 < np) (hp1 : pg 1 < np) (hm9 : hb (b + 220) = some (.inr (11, fs0))) (E0 : List (List Int64)) (T : mT_ gu G hb b fs0 E0) : CT G mX13_both [.ref (b + 220)] hb z (fun v9 h1 z1 => v9 = none ∧ z1 = z ∧ ∃ fs1, h1 (b + 220) = some (.inr (11, fs1)) ∧ fs1.length = 71 ∧ fsE [28, 29, 52, 53, 54, 55, 56, 57] fs0 fs1 ∧ (∀ a, a ≠ b + 220 → a ≠ b + 241 → h1 a = hb a) ∧ mT_ gu G h1 b fs1 (E0 ++ bQ (mvW mp ((O.getD o ([], 0)).1.take d)) kd x3 x4 x5 x6 (mc : Int) n pg cc vo)) := by
  refine CT.of (by decide +kernel) rfl rfl (Nat.le_of_ble_eq_true rfl) ?_
  obtain ⟨k0, k1⟩ := id LK
  obtain ⟨fsd, fo, ft, ff, gx, gy, gp, gl, gh, d49, d50, d51, d52, d53, d54, d55, d56, d57, dd⟩ := id LD
  obtain ⟨⟨zv1, zv2⟩, pv, cv⟩ := k1 0 (by decide)
  obtain ⟨⟨zw1, zw2⟩, pw, cw⟩ := k1 1 (by decide)
  obtain ⟨sv1, sv2, sv3, sv4, sv5⟩ := dd 0 (by decide)
  obtain ⟨sw1, sw2, sw3, sw4, sw5⟩ := dd 1 (by decide)
  have r1 := RU.2.1
  obtain ⟨r0, _, ⟨j33, r33, r33a⟩, _, _, _, _, ⟨j38, r38, r38a⟩, _⟩ := id RU
  obtain ⟨_, _, ⟨g2_, y2, y2a⟩, yy⟩ := id MY
  have yB : np ≤ 64 := yy.2.2.2.2.2.2.2.2.1
  have hlen : fs0.length = 71 := hq0.1
  have f_kind := hq0.f_kind
  have f_volts := hq0.f_volts
  have f_ofPolygon := hq0.f_ofPolygon
  have f_volt := hq0.f_volt
  have f_rule := h58
  have V0a := (vo (pg 0)).le_toInt
  have V0b := (vo (pg 0)).toInt_lt
  have V1a := (vo (pg 1)).le_toInt
  have V1b := (vo (pg 1)).toInt_lt
  have X5a := x5.le_toInt
  have X5b := x5.toInt_lt
  refine v_aload_n dX13_both_0 rfl 0 rfl ?_
  refine v_getf 19 (ci := 11) (C := RX13) (T := TX13) (N := 71) rfl iwX13_both_X13 (Nat.le_of_ble_eq_true rfl) (by decide +kernel) dX13_both_1 (by first | with_reducible assumption) (by repeat (first | with_reducible assumption | (with_reducible refine (sv_ls (by first | omega | (simp only [List.length_set]; omega))).trans ?_; exact rfl) | with_reducible refine (List.getElem?_set_ne (by decide)).trans ?_)) ?_
  refine v_aload_n dX13_both_4 rfl 0 rfl ?_
  refine v_getf 58 (ci := 11) (C := RX13) (T := TX13) (N := 71) rfl iwX13_both_X13 (Nat.le_of_ble_eq_true rfl) (by decide +kernel) dX13_both_5 (by first | with_reducible assumption) (by repeat (first | with_reducible assumption | (with_reducible refine (sv_ls (by first | omega | (simp only [List.length_set]; omega))).trans ?_; exact rfl) | with_reducible refine (List.getElem?_set_ne (by decide)).trans ?_)) ?_
  refine v_ialdS (v := nI kd) dX13_both_8 (by first | with_reducible assumption) (vp_in_nI (by omega) (by omega)) (by rw [nI_clamp (by omega)]; exact r33a) ?_
  refine v_istore_n (L' := [(1, _), (0, _)]) dX13_both_9 rfl (Nat.le_of_ble_eq_true rfl) rfl ?_
  refine v_aload_n dX13_both_10 rfl 1 rfl ?_
  refine v_getf 6 (ci := 11) (C := RX13) (T := TX13) (N := 71) rfl iwX13_both_X13 (Nat.le_of_ble_eq_true rfl) (by decide +kernel) dX13_both_11 (by first | with_reducible assumption) (by repeat (first | with_reducible assumption | (with_reducible refine (sv_ls (by first | omega | (simp only [List.length_set]; omega))).trans ?_; exact rfl) | with_reducible refine (List.getElem?_set_ne (by decide)).trans ?_)) ?_
  refine v_aload_n dX13_both_14 rfl 1 rfl ?_
  refine v_getf 51 (ci := 11) (C := RX13) (T := TX13) (N := 71) rfl iwX13_both_X13 (Nat.le_of_ble_eq_true rfl) (by decide +kernel) dX13_both_15 (by first | with_reducible assumption) (by repeat (first | with_reducible assumption | (with_reducible refine (sv_ls (by first | omega | (simp only [List.length_set]; omega))).trans ?_; exact rfl) | with_reducible refine (List.getElem?_set_ne (by decide)).trans ?_)) ?_
  refine v_iconst (v := 0) dX13_both_18 (by decide) ?_
  refine v_ialdS (v := nI (pg 0)) dX13_both_19 (by first | with_reducible assumption) (vp_in_nI (n := 0) (by omega) (by omega)) (by exact sv2) ?_
  refine v_laldS (v := jN (vo (pg 0)).toInt) dX13_both_20 (by first | with_reducible assumption) (vp_in_nI (by omega) (by omega)) (by rw [nI_clamp (by omega)]; exact (y2a _ hp0).trans (i64_jN _)) ?_
  refine v_aload_n dX13_both_21 rfl 1 rfl ?_
  refine v_getf 6 (ci := 11) (C := RX13) (T := TX13) (N := 71) rfl iwX13_both_X13 (Nat.le_of_ble_eq_true rfl) (by decide +kernel) dX13_both_22 (by first | with_reducible assumption) (by repeat (first | with_reducible assumption | (with_reducible refine (sv_ls (by first | omega | (simp only [List.length_set]; omega))).trans ?_; exact rfl) | with_reducible refine (List.getElem?_set_ne (by decide)).trans ?_)) ?_
  refine v_aload_n dX13_both_25 rfl 1 rfl ?_
  refine v_getf 51 (ci := 11) (C := RX13) (T := TX13) (N := 71) rfl iwX13_both_X13 (Nat.le_of_ble_eq_true rfl) (by decide +kernel) dX13_both_26 (by first | with_reducible assumption) (by repeat (first | with_reducible assumption | (with_reducible refine (sv_ls (by first | omega | (simp only [List.length_set]; omega))).trans ?_; exact rfl) | with_reducible refine (List.getElem?_set_ne (by decide)).trans ?_)) ?_
  refine v_iconst (v := 1) dX13_both_29 (by decide) ?_
  refine v_ialdS (v := nI (pg 1)) dX13_both_30 (by first | with_reducible assumption) (vp_in_nI (n := 1) (by omega) (by omega)) (by exact sw2) ?_
  refine v_laldS (v := jN (vo (pg 1)).toInt) dX13_both_31 (by first | with_reducible assumption) (vp_in_nI (by omega) (by omega)) (by rw [nI_clamp (by omega)]; exact (y2a _ hp1).trans (i64_jN _)) ?_
  refine v_lsub dX13_both_32 ?_
  rw [← jN_sub]
  refine v_lstore_n (L' := [(2, _), (1, _), (0, _)]) dX13_both_33 rfl (Nat.le_of_ble_eq_true rfl) rfl ?_
  refine v_aload_n dX13_both_34 rfl 2 rfl ?_
  refine v_getf 24 (ci := 11) (C := RX13) (T := TX13) (N := 71) rfl iwX13_both_X13 (Nat.le_of_ble_eq_true rfl) (by decide +kernel) dX13_both_35 (by first | with_reducible assumption) (by repeat (first | with_reducible assumption | (with_reducible refine (sv_ls (by first | omega | (simp only [List.length_set]; omega))).trans ?_; exact rfl) | with_reducible refine (List.getElem?_set_ne (by decide)).trans ?_)) ?_
  refine v_aload_n dX13_both_38 rfl 2 rfl ?_
  refine v_getf 58 (ci := 11) (C := RX13) (T := TX13) (N := 71) rfl iwX13_both_X13 (Nat.le_of_ble_eq_true rfl) (by decide +kernel) dX13_both_39 (by first | with_reducible assumption) (by repeat (first | with_reducible assumption | (with_reducible refine (sv_ls (by first | omega | (simp only [List.length_set]; omega))).trans ?_; exact rfl) | with_reducible refine (List.getElem?_set_ne (by decide)).trans ?_)) ?_
  refine v_laldS (v := jN x5.toInt) dX13_both_42 (by first | with_reducible assumption) (vp_in_nI (by omega) (by omega)) (by rw [nI_clamp (by omega)]; exact r38a) ?_
  refine v_lconst (v := 0) dX13_both_43 (by decide) ?_
  refine v_lcmp_lt (tgt := 73) dX13_both_44 dX13_both_45 (by decide) (fun c_45 => ?_) (fun c_45 => ?_)
  · refine v_iconst (v := 1) dX13_both_73 (by decide) ?_
    refine v_goto (tgt := 78) dX13_both_74 (by decide) ?_
    refine v_istore (L' := [(4, _), (2, _), (1, _), (0, _)]) dX13_both_78 (Nat.le_of_ble_eq_true rfl) rfl ?_
    refine v_sub (L' := [(4, _), (1, _), (0, _)]) [0, 2, 3] rfl ?_
    have hh := t_bo80 G (fun v9 h1 z1 => v9 = none ∧ z1 = z ∧ ∃ fs1, h1 (b + 220) = some (.inr (11, fs1)) ∧ fs1.length = 71 ∧ fsE [28, 29, 52, 53, 54, 55, 56, 57] fs0 fs1 ∧ (∀ a, a ≠ b + 220 → a ≠ b + 241 → h1 a = hb a) ∧ mT_ gu G h1 b fs1 (E0 ++ bQ (mvW mp ((O.getD o ([], 0)).1.take d)) kd x3 x4 x5 x6 (mc : Int) n pg cc vo)) z b nc np pl R hm p3 p4 sz ly vo mp X Y hb fs0 hq0 MY O MO o ho how d hd h60 h61 mc hmc h62 hMB ri kd l1 l2 x3 x4 x5 x6 RU h58 hen n pg cc LD LK hm9 E0 T (fun h2 fs2 v1 v2 v3 v4 v5 => ⟨rfl, rfl, fs2, v1, v2, v3, v4, v5⟩)
    first
      | (rw [if_pos (show tnM x5 (vo (pg 0)) (vo (pg 1)) from Or.inl ((jN_lt (b := 0) (by omega) (by omega) (by omega) (by omega)).mp c_45))] at hh; exact hh)
      | (have g5 := mt (jN_lt (by omega) (by omega) (by omega) (by omega)).mpr c_70
         have g6 : 0 ≤ ((vo (pg 0)).toInt - (vo (pg 1)).toInt) := (jN_le (a := 0) (by omega) (by omega) (by omega) (by omega)).mp c_51
         rw [if_pos (show tnM x5 (vo (pg 0)) (vo (pg 1)) from Or.inr (by rw [if_neg (Int.not_lt.mpr g6)]; omega))] at hh; exact hh)
      | (have g5 := mt (jN_lt (by omega) (by omega) (by omega) (by omega)).mpr c_70
         have g6 := mt (jN_le (a := 0) (b := ((vo (pg 0)).toInt - (vo (pg 1)).toInt)) (by omega) (by omega) (by omega) (by omega)).mpr c_51
         rw [if_pos (show tnM x5 (vo (pg 0)) (vo (pg 1)) from Or.inr (by rw [if_pos (Int.not_le.mp g6)]; omega))] at hh; exact hh)
      | (have g5 := (jN_lt (by omega) (by omega) (by omega) (by omega)).mp c_70
         have g4 := mt (jN_lt (b := 0) (by omega) (by omega) (by omega) (by omega)).mpr c_45
         have g6 : 0 ≤ ((vo (pg 0)).toInt - (vo (pg 1)).toInt) := (jN_le (a := 0) (by omega) (by omega) (by omega) (by omega)).mp c_51
         rw [if_neg (show ¬ tnM x5 (vo (pg 0)) (vo (pg 1)) from fun e9 => by
           rcases e9 with e8 | e8
           · exact g4 e8
           · rw [if_neg (Int.not_lt.mpr g6)] at e8; omega)] at hh; exact hh)
      | (have g5 := (jN_lt (by omega) (by omega) (by omega) (by omega)).mp c_70
         have g4 := mt (jN_lt (b := 0) (by omega) (by omega) (by omega) (by omega)).mpr c_45
         have g6 := mt (jN_le (a := 0) (b := ((vo (pg 0)).toInt - (vo (pg 1)).toInt)) (by omega) (by omega) (by omega) (by omega)).mpr c_51
         rw [if_neg (show ¬ tnM x5 (vo (pg 0)) (vo (pg 1)) from fun e9 => by
           rcases e9 with e8 | e8
           · exact g4 e8
           · rw [if_pos (Int.not_le.mp g6)] at e8; omega)] at hh; exact hh)
  · refine v_lload_n dX13_both_48 rfl 0 rfl ?_
    refine v_lconst (v := 0) dX13_both_49 (by decide) ?_
    refine v_lcmp_ge (tgt := 59) dX13_both_50 dX13_both_51 (by decide) (fun c_51 => ?_) (fun c_51 => ?_)
    · refine v_lload_n dX13_both_59 rfl 0 rfl ?_
      refine v_aload_n dX13_both_60 rfl 2 rfl ?_
      refine v_getf 24 (ci := 11) (C := RX13) (T := TX13) (N := 71) rfl iwX13_both_X13 (Nat.le_of_ble_eq_true rfl) (by decide +kernel) dX13_both_61 (by first | with_reducible assumption) (by repeat (first | with_reducible assumption | (with_reducible refine (sv_ls (by first | omega | (simp only [List.length_set]; omega))).trans ?_; exact rfl) | with_reducible refine (List.getElem?_set_ne (by decide)).trans ?_)) ?_
      refine v_aload_n dX13_both_64 rfl 2 rfl ?_
      refine v_getf 58 (ci := 11) (C := RX13) (T := TX13) (N := 71) rfl iwX13_both_X13 (Nat.le_of_ble_eq_true rfl) (by decide +kernel) dX13_both_65 (by first | with_reducible assumption) (by repeat (first | with_reducible assumption | (with_reducible refine (sv_ls (by first | omega | (simp only [List.length_set]; omega))).trans ?_; exact rfl) | with_reducible refine (List.getElem?_set_ne (by decide)).trans ?_)) ?_
      refine v_laldS (v := jN x5.toInt) dX13_both_68 (by first | with_reducible assumption) (vp_in_nI (by omega) (by omega)) (by rw [nI_clamp (by omega)]; exact r38a) ?_
      refine v_lcmp_lt (tgt := 77) dX13_both_69 dX13_both_70 (by decide) (fun c_70 => ?_) (fun c_70 => ?_)
      · refine v_iconst (v := 0) dX13_both_77 (by decide) ?_
        refine v_istore (L' := [(4, _), (2, _), (1, _), (0, _)]) dX13_both_78 (Nat.le_of_ble_eq_true rfl) rfl ?_
        refine v_sub (L' := [(4, _), (1, _), (0, _)]) [0, 2, 3] rfl ?_
        have hh := t_bo80 G (fun v9 h1 z1 => v9 = none ∧ z1 = z ∧ ∃ fs1, h1 (b + 220) = some (.inr (11, fs1)) ∧ fs1.length = 71 ∧ fsE [28, 29, 52, 53, 54, 55, 56, 57] fs0 fs1 ∧ (∀ a, a ≠ b + 220 → a ≠ b + 241 → h1 a = hb a) ∧ mT_ gu G h1 b fs1 (E0 ++ bQ (mvW mp ((O.getD o ([], 0)).1.take d)) kd x3 x4 x5 x6 (mc : Int) n pg cc vo)) z b nc np pl R hm p3 p4 sz ly vo mp X Y hb fs0 hq0 MY O MO o ho how d hd h60 h61 mc hmc h62 hMB ri kd l1 l2 x3 x4 x5 x6 RU h58 hen n pg cc LD LK hm9 E0 T (fun h2 fs2 v1 v2 v3 v4 v5 => ⟨rfl, rfl, fs2, v1, v2, v3, v4, v5⟩)
        first
          | (rw [if_pos (show tnM x5 (vo (pg 0)) (vo (pg 1)) from Or.inl ((jN_lt (b := 0) (by omega) (by omega) (by omega) (by omega)).mp c_45))] at hh; exact hh)
          | (have g5 := mt (jN_lt (by omega) (by omega) (by omega) (by omega)).mpr c_70
             have g6 : 0 ≤ ((vo (pg 0)).toInt - (vo (pg 1)).toInt) := (jN_le (a := 0) (by omega) (by omega) (by omega) (by omega)).mp c_51
             rw [if_pos (show tnM x5 (vo (pg 0)) (vo (pg 1)) from Or.inr (by rw [if_neg (Int.not_lt.mpr g6)]; omega))] at hh; exact hh)
          | (have g5 := mt (jN_lt (by omega) (by omega) (by omega) (by omega)).mpr c_70
             have g6 := mt (jN_le (a := 0) (b := ((vo (pg 0)).toInt - (vo (pg 1)).toInt)) (by omega) (by omega) (by omega) (by omega)).mpr c_51
             rw [if_pos (show tnM x5 (vo (pg 0)) (vo (pg 1)) from Or.inr (by rw [if_pos (Int.not_le.mp g6)]; omega))] at hh; exact hh)
          | (have g5 := (jN_lt (by omega) (by omega) (by omega) (by omega)).mp c_70
             have g4 := mt (jN_lt (b := 0) (by omega) (by omega) (by omega) (by omega)).mpr c_45
             have g6 : 0 ≤ ((vo (pg 0)).toInt - (vo (pg 1)).toInt) := (jN_le (a := 0) (by omega) (by omega) (by omega) (by omega)).mp c_51
             rw [if_neg (show ¬ tnM x5 (vo (pg 0)) (vo (pg 1)) from fun e9 => by
               rcases e9 with e8 | e8
               · exact g4 e8
               · rw [if_neg (Int.not_lt.mpr g6)] at e8; omega)] at hh; exact hh)
          | (have g5 := (jN_lt (by omega) (by omega) (by omega) (by omega)).mp c_70
             have g4 := mt (jN_lt (b := 0) (by omega) (by omega) (by omega) (by omega)).mpr c_45
             have g6 := mt (jN_le (a := 0) (b := ((vo (pg 0)).toInt - (vo (pg 1)).toInt)) (by omega) (by omega) (by omega) (by omega)).mpr c_51
             rw [if_neg (show ¬ tnM x5 (vo (pg 0)) (vo (pg 1)) from fun e9 => by
               rcases e9 with e8 | e8
               · exact g4 e8
               · rw [if_pos (Int.not_le.mp g6)] at e8; omega)] at hh; exact hh)
      · refine v_iconst (v := 1) dX13_both_73 (by decide) ?_
        refine v_goto (tgt := 78) dX13_both_74 (by decide) ?_
        refine v_istore (L' := [(4, _), (2, _), (1, _), (0, _)]) dX13_both_78 (Nat.le_of_ble_eq_true rfl) rfl ?_
        refine v_sub (L' := [(4, _), (1, _), (0, _)]) [0, 2, 3] rfl ?_
        have hh := t_bo80 G (fun v9 h1 z1 => v9 = none ∧ z1 = z ∧ ∃ fs1, h1 (b + 220) = some (.inr (11, fs1)) ∧ fs1.length = 71 ∧ fsE [28, 29, 52, 53, 54, 55, 56, 57] fs0 fs1 ∧ (∀ a, a ≠ b + 220 → a ≠ b + 241 → h1 a = hb a) ∧ mT_ gu G h1 b fs1 (E0 ++ bQ (mvW mp ((O.getD o ([], 0)).1.take d)) kd x3 x4 x5 x6 (mc : Int) n pg cc vo)) z b nc np pl R hm p3 p4 sz ly vo mp X Y hb fs0 hq0 MY O MO o ho how d hd h60 h61 mc hmc h62 hMB ri kd l1 l2 x3 x4 x5 x6 RU h58 hen n pg cc LD LK hm9 E0 T (fun h2 fs2 v1 v2 v3 v4 v5 => ⟨rfl, rfl, fs2, v1, v2, v3, v4, v5⟩)
        first
          | (rw [if_pos (show tnM x5 (vo (pg 0)) (vo (pg 1)) from Or.inl ((jN_lt (b := 0) (by omega) (by omega) (by omega) (by omega)).mp c_45))] at hh; exact hh)
          | (have g5 := mt (jN_lt (by omega) (by omega) (by omega) (by omega)).mpr c_70
             have g6 : 0 ≤ ((vo (pg 0)).toInt - (vo (pg 1)).toInt) := (jN_le (a := 0) (by omega) (by omega) (by omega) (by omega)).mp c_51
             rw [if_pos (show tnM x5 (vo (pg 0)) (vo (pg 1)) from Or.inr (by rw [if_neg (Int.not_lt.mpr g6)]; omega))] at hh; exact hh)
          | (have g5 := mt (jN_lt (by omega) (by omega) (by omega) (by omega)).mpr c_70
             have g6 := mt (jN_le (a := 0) (b := ((vo (pg 0)).toInt - (vo (pg 1)).toInt)) (by omega) (by omega) (by omega) (by omega)).mpr c_51
             rw [if_pos (show tnM x5 (vo (pg 0)) (vo (pg 1)) from Or.inr (by rw [if_pos (Int.not_le.mp g6)]; omega))] at hh; exact hh)
          | (have g5 := (jN_lt (by omega) (by omega) (by omega) (by omega)).mp c_70
             have g4 := mt (jN_lt (b := 0) (by omega) (by omega) (by omega) (by omega)).mpr c_45
             have g6 : 0 ≤ ((vo (pg 0)).toInt - (vo (pg 1)).toInt) := (jN_le (a := 0) (by omega) (by omega) (by omega) (by omega)).mp c_51
             rw [if_neg (show ¬ tnM x5 (vo (pg 0)) (vo (pg 1)) from fun e9 => by
               rcases e9 with e8 | e8
               · exact g4 e8
               · rw [if_neg (Int.not_lt.mpr g6)] at e8; omega)] at hh; exact hh)
          | (have g5 := (jN_lt (by omega) (by omega) (by omega) (by omega)).mp c_70
             have g4 := mt (jN_lt (b := 0) (by omega) (by omega) (by omega) (by omega)).mpr c_45
             have g6 := mt (jN_le (a := 0) (b := ((vo (pg 0)).toInt - (vo (pg 1)).toInt)) (by omega) (by omega) (by omega) (by omega)).mpr c_51
             rw [if_neg (show ¬ tnM x5 (vo (pg 0)) (vo (pg 1)) from fun e9 => by
               rcases e9 with e8 | e8
               · exact g4 e8
               · rw [if_pos (Int.not_le.mp g6)] at e8; omega)] at hh; exact hh)
    · refine v_lload_n dX13_both_54 rfl 0 rfl ?_
      refine v_lneg dX13_both_55 ?_
      rw [← jN_neg]
      refine v_goto (tgt := 60) dX13_both_56 (by decide) ?_
      refine v_aload_n dX13_both_60 rfl 2 rfl ?_
      refine v_getf 24 (ci := 11) (C := RX13) (T := TX13) (N := 71) rfl iwX13_both_X13 (Nat.le_of_ble_eq_true rfl) (by decide +kernel) dX13_both_61 (by first | with_reducible assumption) (by repeat (first | with_reducible assumption | (with_reducible refine (sv_ls (by first | omega | (simp only [List.length_set]; omega))).trans ?_; exact rfl) | with_reducible refine (List.getElem?_set_ne (by decide)).trans ?_)) ?_
      refine v_aload_n dX13_both_64 rfl 2 rfl ?_
      refine v_getf 58 (ci := 11) (C := RX13) (T := TX13) (N := 71) rfl iwX13_both_X13 (Nat.le_of_ble_eq_true rfl) (by decide +kernel) dX13_both_65 (by first | with_reducible assumption) (by repeat (first | with_reducible assumption | (with_reducible refine (sv_ls (by first | omega | (simp only [List.length_set]; omega))).trans ?_; exact rfl) | with_reducible refine (List.getElem?_set_ne (by decide)).trans ?_)) ?_
      refine v_laldS (v := jN x5.toInt) dX13_both_68 (by first | with_reducible assumption) (vp_in_nI (by omega) (by omega)) (by rw [nI_clamp (by omega)]; exact r38a) ?_
      refine v_lcmp_lt (tgt := 77) dX13_both_69 dX13_both_70 (by decide) (fun c_70 => ?_) (fun c_70 => ?_)
      · refine v_iconst (v := 0) dX13_both_77 (by decide) ?_
        refine v_istore (L' := [(4, _), (2, _), (1, _), (0, _)]) dX13_both_78 (Nat.le_of_ble_eq_true rfl) rfl ?_
        refine v_sub (L' := [(4, _), (1, _), (0, _)]) [0, 2, 3] rfl ?_
        have hh := t_bo80 G (fun v9 h1 z1 => v9 = none ∧ z1 = z ∧ ∃ fs1, h1 (b + 220) = some (.inr (11, fs1)) ∧ fs1.length = 71 ∧ fsE [28, 29, 52, 53, 54, 55, 56, 57] fs0 fs1 ∧ (∀ a, a ≠ b + 220 → a ≠ b + 241 → h1 a = hb a) ∧ mT_ gu G h1 b fs1 (E0 ++ bQ (mvW mp ((O.getD o ([], 0)).1.take d)) kd x3 x4 x5 x6 (mc : Int) n pg cc vo)) z b nc np pl R hm p3 p4 sz ly vo mp X Y hb fs0 hq0 MY O MO o ho how d hd h60 h61 mc hmc h62 hMB ri kd l1 l2 x3 x4 x5 x6 RU h58 hen n pg cc LD LK hm9 E0 T (fun h2 fs2 v1 v2 v3 v4 v5 => ⟨rfl, rfl, fs2, v1, v2, v3, v4, v5⟩)
        first
          | (rw [if_pos (show tnM x5 (vo (pg 0)) (vo (pg 1)) from Or.inl ((jN_lt (b := 0) (by omega) (by omega) (by omega) (by omega)).mp c_45))] at hh; exact hh)
          | (have g5 := mt (jN_lt (by omega) (by omega) (by omega) (by omega)).mpr c_70
             have g6 : 0 ≤ ((vo (pg 0)).toInt - (vo (pg 1)).toInt) := (jN_le (a := 0) (by omega) (by omega) (by omega) (by omega)).mp c_51
             rw [if_pos (show tnM x5 (vo (pg 0)) (vo (pg 1)) from Or.inr (by rw [if_neg (Int.not_lt.mpr g6)]; omega))] at hh; exact hh)
          | (have g5 := mt (jN_lt (by omega) (by omega) (by omega) (by omega)).mpr c_70
             have g6 := mt (jN_le (a := 0) (b := ((vo (pg 0)).toInt - (vo (pg 1)).toInt)) (by omega) (by omega) (by omega) (by omega)).mpr c_51
             rw [if_pos (show tnM x5 (vo (pg 0)) (vo (pg 1)) from Or.inr (by rw [if_pos (Int.not_le.mp g6)]; omega))] at hh; exact hh)
          | (have g5 := (jN_lt (by omega) (by omega) (by omega) (by omega)).mp c_70
             have g4 := mt (jN_lt (b := 0) (by omega) (by omega) (by omega) (by omega)).mpr c_45
             have g6 : 0 ≤ ((vo (pg 0)).toInt - (vo (pg 1)).toInt) := (jN_le (a := 0) (by omega) (by omega) (by omega) (by omega)).mp c_51
             rw [if_neg (show ¬ tnM x5 (vo (pg 0)) (vo (pg 1)) from fun e9 => by
               rcases e9 with e8 | e8
               · exact g4 e8
               · rw [if_neg (Int.not_lt.mpr g6)] at e8; omega)] at hh; exact hh)
          | (have g5 := (jN_lt (by omega) (by omega) (by omega) (by omega)).mp c_70
             have g4 := mt (jN_lt (b := 0) (by omega) (by omega) (by omega) (by omega)).mpr c_45
             have g6 := mt (jN_le (a := 0) (b := ((vo (pg 0)).toInt - (vo (pg 1)).toInt)) (by omega) (by omega) (by omega) (by omega)).mpr c_51
             rw [if_neg (show ¬ tnM x5 (vo (pg 0)) (vo (pg 1)) from fun e9 => by
               rcases e9 with e8 | e8
               · exact g4 e8
               · rw [if_pos (Int.not_le.mp g6)] at e8; omega)] at hh; exact hh)
      · refine v_iconst (v := 1) dX13_both_73 (by decide) ?_
        refine v_goto (tgt := 78) dX13_both_74 (by decide) ?_
        refine v_istore (L' := [(4, _), (2, _), (1, _), (0, _)]) dX13_both_78 (Nat.le_of_ble_eq_true rfl) rfl ?_
        refine v_sub (L' := [(4, _), (1, _), (0, _)]) [0, 2, 3] rfl ?_
        have hh := t_bo80 G (fun v9 h1 z1 => v9 = none ∧ z1 = z ∧ ∃ fs1, h1 (b + 220) = some (.inr (11, fs1)) ∧ fs1.length = 71 ∧ fsE [28, 29, 52, 53, 54, 55, 56, 57] fs0 fs1 ∧ (∀ a, a ≠ b + 220 → a ≠ b + 241 → h1 a = hb a) ∧ mT_ gu G h1 b fs1 (E0 ++ bQ (mvW mp ((O.getD o ([], 0)).1.take d)) kd x3 x4 x5 x6 (mc : Int) n pg cc vo)) z b nc np pl R hm p3 p4 sz ly vo mp X Y hb fs0 hq0 MY O MO o ho how d hd h60 h61 mc hmc h62 hMB ri kd l1 l2 x3 x4 x5 x6 RU h58 hen n pg cc LD LK hm9 E0 T (fun h2 fs2 v1 v2 v3 v4 v5 => ⟨rfl, rfl, fs2, v1, v2, v3, v4, v5⟩)
        first
          | (rw [if_pos (show tnM x5 (vo (pg 0)) (vo (pg 1)) from Or.inl ((jN_lt (b := 0) (by omega) (by omega) (by omega) (by omega)).mp c_45))] at hh; exact hh)
          | (have g5 := mt (jN_lt (by omega) (by omega) (by omega) (by omega)).mpr c_70
             have g6 : 0 ≤ ((vo (pg 0)).toInt - (vo (pg 1)).toInt) := (jN_le (a := 0) (by omega) (by omega) (by omega) (by omega)).mp c_51
             rw [if_pos (show tnM x5 (vo (pg 0)) (vo (pg 1)) from Or.inr (by rw [if_neg (Int.not_lt.mpr g6)]; omega))] at hh; exact hh)
          | (have g5 := mt (jN_lt (by omega) (by omega) (by omega) (by omega)).mpr c_70
             have g6 := mt (jN_le (a := 0) (b := ((vo (pg 0)).toInt - (vo (pg 1)).toInt)) (by omega) (by omega) (by omega) (by omega)).mpr c_51
             rw [if_pos (show tnM x5 (vo (pg 0)) (vo (pg 1)) from Or.inr (by rw [if_pos (Int.not_le.mp g6)]; omega))] at hh; exact hh)
          | (have g5 := (jN_lt (by omega) (by omega) (by omega) (by omega)).mp c_70
             have g4 := mt (jN_lt (b := 0) (by omega) (by omega) (by omega) (by omega)).mpr c_45
             have g6 : 0 ≤ ((vo (pg 0)).toInt - (vo (pg 1)).toInt) := (jN_le (a := 0) (by omega) (by omega) (by omega) (by omega)).mp c_51
             rw [if_neg (show ¬ tnM x5 (vo (pg 0)) (vo (pg 1)) from fun e9 => by
               rcases e9 with e8 | e8
               · exact g4 e8
               · rw [if_neg (Int.not_lt.mpr g6)] at e8; omega)] at hh; exact hh)
          | (have g5 := (jN_lt (by omega) (by omega) (by omega) (by omega)).mp c_70
             have g4 := mt (jN_lt (b := 0) (by omega) (by omega) (by omega) (by omega)).mpr c_45
             have g6 := mt (jN_le (a := 0) (b := ((vo (pg 0)).toInt - (vo (pg 1)).toInt)) (by omega) (by omega) (by omega) (by omega)).mpr c_51
             rw [if_neg (show ¬ tnM x5 (vo (pg 0)) (vo (pg 1)) from fun e9 => by
               rcases e9 with e8 | e8
               · exact g4 e8
               · rw [if_pos (Int.not_le.mp g6)] at e8; omega)] at hh; exact hh)

end GU
