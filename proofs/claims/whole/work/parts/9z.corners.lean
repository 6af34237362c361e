theorem iwX1_judgeCornersOf_X1 : ∀ w ∈ wsX10, w ∈ wsX1_judgeCornersOf := by decide +kernel
theorem iwX1_judgeCornersOf_X7 : ∀ w ∈ wsX70, w ∈ wsX1_judgeCornersOf := by decide +kernel
theorem iwX1_judgeCornersOf_X8 : ∀ w ∈ wsX80, w ∈ wsX1_judgeCornersOf := by decide +kernel
set_option maxRecDepth 20000 in
theorem ggX1_judgeCorners_X1_judgeCornersOf : GoodIn wsX1_judgeCorners wsX1_judgeCornersOf := goodIn_r _ [5, 6, 7, 8, 9, 10, 11, 12, 13, 14, 15, 16, 17, 18, 19, 20, 21, 22, 23, 24, 25, 26, 27, 28, 29, 30, 31, 32, 33, 34, 35, 36, 37, 38, 39, 40, 41, 42, 43, 44, 45, 46, 47, 48, 49, 50, 51, 52, 53, 54, 55, 56, 57, 58, 59, 60, 61, 62, 63, 64, 65, 66, 67, 68, 69, 70, 71, 72, 73, 74, 75, 76, 77, 78, 79] (by decide +kernel) (by decide +kernel)
set_option maxRecDepth 20000 in
theorem gX1_judgeCorners_X1_judgeCornersOf : GoodIn wsX1_judgeCorners (wsV RX1 275 RX1 yX1_judgeCornersOf wsX1_judgeCornersOf) := goodIn_app (goodIn_of _ (by decide +kernel)) ggX1_judgeCorners_X1_judgeCornersOf
theorem dX1_judgeCorners_0 : decode cX1_judgeCorners 0 = .ok (.aload_n 0, 1) := by decide +kernel
theorem dX1_judgeCorners_1 : decode cX1_judgeCorners 1 = .ok (.iload_n 1, 1) := by decide +kernel
theorem dX1_judgeCorners_2 : decode cX1_judgeCorners 2 = .ok (.iconst 0, 1) := by decide +kernel
theorem dX1_judgeCorners_3 : decode cX1_judgeCorners 3 = .ok (.iload_n 2, 1) := by decide +kernel
theorem dX1_judgeCorners_4 : decode cX1_judgeCorners 4 = .ok (.iconst 2, 1) := by decide +kernel
theorem dX1_judgeCorners_5 : decode cX1_judgeCorners 5 = .ok (.invokevirtual 275, 3) := by decide +kernel
theorem dX1_judgeCorners_8 : decode cX1_judgeCorners 8 = .ok (.aload_n 0, 1) := by decide +kernel
theorem dX1_judgeCorners_9 : decode cX1_judgeCorners 9 = .ok (.iload_n 1, 1) := by decide +kernel
theorem dX1_judgeCorners_10 : decode cX1_judgeCorners 10 = .ok (.iconst 3, 1) := by decide +kernel
theorem dX1_judgeCorners_11 : decode cX1_judgeCorners 11 = .ok (.iload_n 2, 1) := by decide +kernel
theorem dX1_judgeCorners_12 : decode cX1_judgeCorners 12 = .ok (.iconst 1, 1) := by decide +kernel
theorem dX1_judgeCorners_13 : decode cX1_judgeCorners 13 = .ok (.invokevirtual 275, 3) := by decide +kernel
theorem dX1_judgeCorners_16 : decode cX1_judgeCorners 16 = .ok (.return_, 1) := by decide +kernel
set_option maxRecDepth 20000 in
theorem ggX1_judgeCornersOf_X8_begin : GoodIn wsX1_judgeCornersOf wsX8_begin := goodIn_r _ [19, 20, 46, 47, 48, 49, 50, 51, 52, 53, 54, 55, 56, 57, 58, 59] (by decide +kernel) (by decide +kernel)
set_option maxRecDepth 20000 in
theorem gX1_judgeCornersOf_X8_begin : GoodIn wsX1_judgeCornersOf (wsV RX1 198 RX8 yX8_begin wsX8_begin) := goodIn_app (goodIn_of _ (by decide +kernel)) ggX1_judgeCornersOf_X8_begin
set_option maxRecDepth 20000 in
theorem ggX1_judgeCornersOf_X8_end : GoodIn wsX1_judgeCornersOf wsX8_end := goodIn_r _ [24, 20, 46, 47, 48, 49, 50, 51, 52, 53, 54, 55, 56, 57, 58, 59] (by decide +kernel) (by decide +kernel)
set_option maxRecDepth 20000 in
theorem gX1_judgeCornersOf_X8_end : GoodIn wsX1_judgeCornersOf (wsV RX1 201 RX8 yX8_end wsX8_end) := goodIn_app (goodIn_of _ (by decide +kernel)) ggX1_judgeCornersOf_X8_end
set_option maxRecDepth 20000 in
theorem ggX1_judgeCornersOf_X10_add : GoodIn wsX1_judgeCornersOf wsX10_add := goodIn_r _ [29, 30, 31, 32, 33, 34, 35, 36, 37, 38, 39, 68, 69, 70, 71, 72, 73, 74] (by decide +kernel) (by decide +kernel)
set_option maxRecDepth 20000 in
theorem gX1_judgeCornersOf_X10_add : GoodIn wsX1_judgeCornersOf (wsV RX1 154 RX10 yX10_add wsX10_add) := goodIn_app (goodIn_of _ (by decide +kernel)) ggX1_judgeCornersOf_X10_add
theorem dX1_judgeCornersOf_0 : decode cX1_judgeCornersOf 0 = .ok (.aload_n 0, 1) := by decide +kernel
theorem dX1_judgeCornersOf_1 : decode cX1_judgeCornersOf 1 = .ok (.getfield 30, 3) := by decide +kernel
theorem dX1_judgeCornersOf_4 : decode cX1_judgeCornersOf 4 = .ok (.iload_n 1, 1) := by decide +kernel
theorem dX1_judgeCornersOf_5 : decode cX1_judgeCornersOf 5 = .ok (.iload_n 2, 1) := by decide +kernel
theorem dX1_judgeCornersOf_6 : decode cX1_judgeCornersOf 6 = .ok (.invokevirtual 198, 3) := by decide +kernel
theorem dX1_judgeCornersOf_9 : decode cX1_judgeCornersOf 9 = .ok (.istore 5, 2) := by decide +kernel
theorem dX1_judgeCornersOf_11 : decode cX1_judgeCornersOf 11 = .ok (.iload 5, 2) := by decide +kernel
theorem dX1_judgeCornersOf_13 : decode cX1_judgeCornersOf 13 = .ok (.aload_n 0, 1) := by decide +kernel
theorem dX1_judgeCornersOf_14 : decode cX1_judgeCornersOf 14 = .ok (.getfield 30, 3) := by decide +kernel
theorem dX1_judgeCornersOf_17 : decode cX1_judgeCornersOf 17 = .ok (.iload_n 1, 1) := by decide +kernel
theorem dX1_judgeCornersOf_18 : decode cX1_judgeCornersOf 18 = .ok (.iload_n 2, 1) := by decide +kernel
theorem dX1_judgeCornersOf_19 : decode cX1_judgeCornersOf 19 = .ok (.invokevirtual 201, 3) := by decide +kernel
theorem dX1_judgeCornersOf_22 : decode cX1_judgeCornersOf 22 = .ok (.if_icmp .ge 222, 3) := by decide +kernel
theorem dX1_judgeCornersOf_25 : decode cX1_judgeCornersOf 25 = .ok (.aload_n 0, 1) := by decide +kernel
theorem dX1_judgeCornersOf_26 : decode cX1_judgeCornersOf 26 = .ok (.getfield 30, 3) := by decide +kernel
theorem dX1_judgeCornersOf_29 : decode cX1_judgeCornersOf 29 = .ok (.iload_n 3, 1) := by decide +kernel
theorem dX1_judgeCornersOf_30 : decode cX1_judgeCornersOf 30 = .ok (.iload 4, 2) := by decide +kernel
theorem dX1_judgeCornersOf_32 : decode cX1_judgeCornersOf 32 = .ok (.invokevirtual 198, 3) := by decide +kernel
theorem dX1_judgeCornersOf_35 : decode cX1_judgeCornersOf 35 = .ok (.istore 6, 2) := by decide +kernel
theorem dX1_judgeCornersOf_37 : decode cX1_judgeCornersOf 37 = .ok (.iload 6, 2) := by decide +kernel
theorem dX1_judgeCornersOf_39 : decode cX1_judgeCornersOf 39 = .ok (.aload_n 0, 1) := by decide +kernel
theorem dX1_judgeCornersOf_40 : decode cX1_judgeCornersOf 40 = .ok (.getfield 30, 3) := by decide +kernel
theorem dX1_judgeCornersOf_43 : decode cX1_judgeCornersOf 43 = .ok (.iload_n 3, 1) := by decide +kernel
theorem dX1_judgeCornersOf_44 : decode cX1_judgeCornersOf 44 = .ok (.iload 4, 2) := by decide +kernel
theorem dX1_judgeCornersOf_46 : decode cX1_judgeCornersOf 46 = .ok (.invokevirtual 201, 3) := by decide +kernel
theorem dX1_judgeCornersOf_49 : decode cX1_judgeCornersOf 49 = .ok (.if_icmp .ge 189, 3) := by decide +kernel
theorem dX1_judgeCornersOf_52 : decode cX1_judgeCornersOf 52 = .ok (.aload_n 0, 1) := by decide +kernel
theorem dX1_judgeCornersOf_53 : decode cX1_judgeCornersOf 53 = .ok (.getfield 30, 3) := by decide +kernel
theorem dX1_judgeCornersOf_56 : decode cX1_judgeCornersOf 56 = .ok (.getfield 207, 3) := by decide +kernel
theorem dX1_judgeCornersOf_59 : decode cX1_judgeCornersOf 59 = .ok (.iload 5, 2) := by decide +kernel
theorem dX1_judgeCornersOf_61 : decode cX1_judgeCornersOf 61 = .ok (.iaload, 1) := by decide +kernel
theorem dX1_judgeCornersOf_62 : decode cX1_judgeCornersOf 62 = .ok (.istore 7, 2) := by decide +kernel
theorem dX1_judgeCornersOf_64 : decode cX1_judgeCornersOf 64 = .ok (.aload_n 0, 1) := by decide +kernel
theorem dX1_judgeCornersOf_65 : decode cX1_judgeCornersOf 65 = .ok (.getfield 30, 3) := by decide +kernel
theorem dX1_judgeCornersOf_68 : decode cX1_judgeCornersOf 68 = .ok (.getfield 207, 3) := by decide +kernel
theorem dX1_judgeCornersOf_71 : decode cX1_judgeCornersOf 71 = .ok (.iload 6, 2) := by decide +kernel
theorem dX1_judgeCornersOf_73 : decode cX1_judgeCornersOf 73 = .ok (.iaload, 1) := by decide +kernel
theorem dX1_judgeCornersOf_74 : decode cX1_judgeCornersOf 74 = .ok (.istore 8, 2) := by decide +kernel
theorem dX1_judgeCornersOf_76 : decode cX1_judgeCornersOf 76 = .ok (.aload_n 0, 1) := by decide +kernel
theorem dX1_judgeCornersOf_77 : decode cX1_judgeCornersOf 77 = .ok (.getfield 30, 3) := by decide +kernel
theorem dX1_judgeCornersOf_80 : decode cX1_judgeCornersOf 80 = .ok (.getfield 204, 3) := by decide +kernel
theorem dX1_judgeCornersOf_83 : decode cX1_judgeCornersOf 83 = .ok (.iload 6, 2) := by decide +kernel
theorem dX1_judgeCornersOf_85 : decode cX1_judgeCornersOf 85 = .ok (.iaload, 1) := by decide +kernel
theorem dX1_judgeCornersOf_86 : decode cX1_judgeCornersOf 86 = .ok (.aload_n 0, 1) := by decide +kernel
theorem dX1_judgeCornersOf_87 : decode cX1_judgeCornersOf 87 = .ok (.getfield 30, 3) := by decide +kernel
theorem dX1_judgeCornersOf_90 : decode cX1_judgeCornersOf 90 = .ok (.getfield 204, 3) := by decide +kernel
theorem dX1_judgeCornersOf_93 : decode cX1_judgeCornersOf 93 = .ok (.iload 5, 2) := by decide +kernel
theorem dX1_judgeCornersOf_95 : decode cX1_judgeCornersOf 95 = .ok (.iaload, 1) := by decide +kernel
theorem dX1_judgeCornersOf_96 : decode cX1_judgeCornersOf 96 = .ok (.isub, 1) := by decide +kernel
theorem dX1_judgeCornersOf_97 : decode cX1_judgeCornersOf 97 = .ok (.i2l, 1) := by decide +kernel
theorem dX1_judgeCornersOf_98 : decode cX1_judgeCornersOf 98 = .ok (.lstore 9, 2) := by decide +kernel
theorem dX1_judgeCornersOf_100 : decode cX1_judgeCornersOf 100 = .ok (.iload_n 2, 1) := by decide +kernel
theorem dX1_judgeCornersOf_101 : decode cX1_judgeCornersOf 101 = .ok (.ifCond .ne 12, 3) := by decide +kernel
theorem dX1_judgeCornersOf_104 : decode cX1_judgeCornersOf 104 = .ok (.iload 8, 2) := by decide +kernel
theorem dX1_judgeCornersOf_106 : decode cX1_judgeCornersOf 106 = .ok (.iload 7, 2) := by decide +kernel
theorem dX1_judgeCornersOf_108 : decode cX1_judgeCornersOf 108 = .ok (.isub, 1) := by decide +kernel
theorem dX1_judgeCornersOf_109 : decode cX1_judgeCornersOf 109 = .ok (.i2l, 1) := by decide +kernel
theorem dX1_judgeCornersOf_110 : decode cX1_judgeCornersOf 110 = .ok (.goto 9, 3) := by decide +kernel
theorem dX1_judgeCornersOf_113 : decode cX1_judgeCornersOf 113 = .ok (.iload 7, 2) := by decide +kernel
theorem dX1_judgeCornersOf_115 : decode cX1_judgeCornersOf 115 = .ok (.iload 8, 2) := by decide +kernel
theorem dX1_judgeCornersOf_117 : decode cX1_judgeCornersOf 117 = .ok (.isub, 1) := by decide +kernel
theorem dX1_judgeCornersOf_118 : decode cX1_judgeCornersOf 118 = .ok (.i2l, 1) := by decide +kernel
theorem dX1_judgeCornersOf_119 : decode cX1_judgeCornersOf 119 = .ok (.lstore 11, 2) := by decide +kernel
theorem dX1_judgeCornersOf_121 : decode cX1_judgeCornersOf 121 = .ok (.lload 9, 2) := by decide +kernel
theorem dX1_judgeCornersOf_123 : decode cX1_judgeCornersOf 123 = .ok (.lload 9, 2) := by decide +kernel
theorem dX1_judgeCornersOf_125 : decode cX1_judgeCornersOf 125 = .ok (.lmul, 1) := by decide +kernel
theorem dX1_judgeCornersOf_126 : decode cX1_judgeCornersOf 126 = .ok (.lload 11, 2) := by decide +kernel
theorem dX1_judgeCornersOf_128 : decode cX1_judgeCornersOf 128 = .ok (.lload 11, 2) := by decide +kernel
theorem dX1_judgeCornersOf_130 : decode cX1_judgeCornersOf 130 = .ok (.lmul, 1) := by decide +kernel
theorem dX1_judgeCornersOf_131 : decode cX1_judgeCornersOf 131 = .ok (.ladd, 1) := by decide +kernel
theorem dX1_judgeCornersOf_132 : decode cX1_judgeCornersOf 132 = .ok (.lstore 13, 2) := by decide +kernel
theorem dX1_judgeCornersOf_134 : decode cX1_judgeCornersOf 134 = .ok (.lload 9, 2) := by decide +kernel
theorem dX1_judgeCornersOf_136 : decode cX1_judgeCornersOf 136 = .ok (.lconst 0, 1) := by decide +kernel
theorem dX1_judgeCornersOf_137 : decode cX1_judgeCornersOf 137 = .ok (.lcmp, 1) := by decide +kernel
theorem dX1_judgeCornersOf_138 : decode cX1_judgeCornersOf 138 = .ok (.ifCond .le 94, 3) := by decide +kernel
theorem dX1_judgeCornersOf_141 : decode cX1_judgeCornersOf 141 = .ok (.lload 11, 2) := by decide +kernel
theorem dX1_judgeCornersOf_143 : decode cX1_judgeCornersOf 143 = .ok (.lconst 0, 1) := by decide +kernel
theorem dX1_judgeCornersOf_144 : decode cX1_judgeCornersOf 144 = .ok (.lcmp, 1) := by decide +kernel
theorem dX1_judgeCornersOf_145 : decode cX1_judgeCornersOf 145 = .ok (.ifCond .le 87, 3) := by decide +kernel
theorem dX1_judgeCornersOf_148 : decode cX1_judgeCornersOf 148 = .ok (.lload 13, 2) := by decide +kernel
theorem dX1_judgeCornersOf_150 : decode cX1_judgeCornersOf 150 = .ok (.aload_n 0, 1) := by decide +kernel
theorem dX1_judgeCornersOf_151 : decode cX1_judgeCornersOf 151 = .ok (.getfield 41, 3) := by decide +kernel
theorem dX1_judgeCornersOf_154 : decode cX1_judgeCornersOf 154 = .ok (.getfield 151, 3) := by decide +kernel
theorem dX1_judgeCornersOf_157 : decode cX1_judgeCornersOf 157 = .ok (.i2l, 1) := by decide +kernel
theorem dX1_judgeCornersOf_158 : decode cX1_judgeCornersOf 158 = .ok (.aload_n 0, 1) := by decide +kernel
theorem dX1_judgeCornersOf_159 : decode cX1_judgeCornersOf 159 = .ok (.getfield 41, 3) := by decide +kernel
theorem dX1_judgeCornersOf_162 : decode cX1_judgeCornersOf 162 = .ok (.getfield 151, 3) := by decide +kernel
theorem dX1_judgeCornersOf_165 : decode cX1_judgeCornersOf 165 = .ok (.i2l, 1) := by decide +kernel
theorem dX1_judgeCornersOf_166 : decode cX1_judgeCornersOf 166 = .ok (.lmul, 1) := by decide +kernel
theorem dX1_judgeCornersOf_167 : decode cX1_judgeCornersOf 167 = .ok (.lcmp, 1) := by decide +kernel
theorem dX1_judgeCornersOf_168 : decode cX1_judgeCornersOf 168 = .ok (.ifCond .ge 64, 3) := by decide +kernel
theorem dX1_judgeCornersOf_171 : decode cX1_judgeCornersOf 171 = .ok (.aload_n 0, 1) := by decide +kernel
theorem dX1_judgeCornersOf_172 : decode cX1_judgeCornersOf 172 = .ok (.getfield 45, 3) := by decide +kernel
theorem dX1_judgeCornersOf_175 : decode cX1_judgeCornersOf 175 = .ok (.aload_n 0, 1) := by decide +kernel
theorem dX1_judgeCornersOf_176 : decode cX1_judgeCornersOf 176 = .ok (.getfield 30, 3) := by decide +kernel
theorem dX1_judgeCornersOf_179 : decode cX1_judgeCornersOf 179 = .ok (.getfield 204, 3) := by decide +kernel
theorem dX1_judgeCornersOf_182 : decode cX1_judgeCornersOf 182 = .ok (.iload 5, 2) := by decide +kernel
theorem dX1_judgeCornersOf_184 : decode cX1_judgeCornersOf 184 = .ok (.iaload, 1) := by decide +kernel
theorem dX1_judgeCornersOf_185 : decode cX1_judgeCornersOf 185 = .ok (.iload 7, 2) := by decide +kernel
theorem dX1_judgeCornersOf_187 : decode cX1_judgeCornersOf 187 = .ok (.iload 8, 2) := by decide +kernel
theorem dX1_judgeCornersOf_189 : decode cX1_judgeCornersOf 189 = .ok (.invokestatic 263, 3) := by decide +kernel
theorem dX1_judgeCornersOf_192 : decode cX1_judgeCornersOf 192 = .ok (.aload_n 0, 1) := by decide +kernel
theorem dX1_judgeCornersOf_193 : decode cX1_judgeCornersOf 193 = .ok (.getfield 30, 3) := by decide +kernel
theorem dX1_judgeCornersOf_196 : decode cX1_judgeCornersOf 196 = .ok (.getfield 204, 3) := by decide +kernel
theorem dX1_judgeCornersOf_199 : decode cX1_judgeCornersOf 199 = .ok (.iload 6, 2) := by decide +kernel
theorem dX1_judgeCornersOf_201 : decode cX1_judgeCornersOf 201 = .ok (.iaload, 1) := by decide +kernel
theorem dX1_judgeCornersOf_202 : decode cX1_judgeCornersOf 202 = .ok (.iload 7, 2) := by decide +kernel
theorem dX1_judgeCornersOf_204 : decode cX1_judgeCornersOf 204 = .ok (.iload 8, 2) := by decide +kernel
theorem dX1_judgeCornersOf_206 : decode cX1_judgeCornersOf 206 = .ok (.invokestatic 260, 3) := by decide +kernel
theorem dX1_judgeCornersOf_209 : decode cX1_judgeCornersOf 209 = .ok (.aload_n 0, 1) := by decide +kernel
theorem dX1_judgeCornersOf_210 : decode cX1_judgeCornersOf 210 = .ok (.getfield 30, 3) := by decide +kernel
theorem dX1_judgeCornersOf_213 : decode cX1_judgeCornersOf 213 = .ok (.getfield 172, 3) := by decide +kernel
theorem dX1_judgeCornersOf_216 : decode cX1_judgeCornersOf 216 = .ok (.iload_n 1, 1) := by decide +kernel
theorem dX1_judgeCornersOf_217 : decode cX1_judgeCornersOf 217 = .ok (.iaload, 1) := by decide +kernel
theorem dX1_judgeCornersOf_218 : decode cX1_judgeCornersOf 218 = .ok (.aload_n 0, 1) := by decide +kernel
theorem dX1_judgeCornersOf_219 : decode cX1_judgeCornersOf 219 = .ok (.getfield 30, 3) := by decide +kernel
theorem dX1_judgeCornersOf_222 : decode cX1_judgeCornersOf 222 = .ok (.getfield 172, 3) := by decide +kernel
theorem dX1_judgeCornersOf_225 : decode cX1_judgeCornersOf 225 = .ok (.iload_n 3, 1) := by decide +kernel
theorem dX1_judgeCornersOf_226 : decode cX1_judgeCornersOf 226 = .ok (.iaload, 1) := by decide +kernel
theorem dX1_judgeCornersOf_227 : decode cX1_judgeCornersOf 227 = .ok (.lload 13, 2) := by decide +kernel
theorem dX1_judgeCornersOf_229 : decode cX1_judgeCornersOf 229 = .ok (.invokevirtual 154, 3) := by decide +kernel
theorem dX1_judgeCornersOf_232 : decode cX1_judgeCornersOf 232 = .ok (.iinc 6 1, 3) := by decide +kernel
theorem dX1_judgeCornersOf_235 : decode cX1_judgeCornersOf 235 = .ok (.goto (-198), 3) := by decide +kernel
theorem dX1_judgeCornersOf_238 : decode cX1_judgeCornersOf 238 = .ok (.iinc 5 1, 3) := by decide +kernel
theorem dX1_judgeCornersOf_241 : decode cX1_judgeCornersOf 241 = .ok (.goto (-230), 3) := by decide +kernel
theorem dX1_judgeCornersOf_244 : decode cX1_judgeCornersOf 244 = .ok (.return_, 1) := by decide +kernel

abbrev mX1_judgeCornersOf : sv_M := (cX1_judgeCornersOf, 15, yX1_judgeCornersOf, wsX1_judgeCornersOf, none, { frames := 4, cells := 0, slots := 0, locals := 150 }, [])
abbrev mX1_judgeCorners : sv_M := (cX1_judgeCorners, 3, yX1_judgeCorners, wsX1_judgeCorners, none, { frames := 6, cells := 0, slots := 0, locals := 250 }, [])
/-- what two corners tell -/
def coR (up : Bool) (lim a c hmI : Int) (s t : iT) : List (List Int64) := if 0 < t.1 - s.1 ∧ 0 < (if up then t.2.1 - s.2.1 else s.2.1 - t.2.1) ∧ (t.1 - s.1) * (t.1 - s.1) + (if up then t.2.1 - s.2.1 else s.2.1 - t.2.1) * (if up then t.2.1 - s.2.1 else s.2.1 - t.2.1) < lim * lim then [rwI s.1 (min s.2.1 t.2.1) t.1 (max s.2.1 t.2.1) a c ((t.1 - s.1) * (t.1 - s.1) + (if up then t.2.1 - s.2.1 else s.2.1 - t.2.1) * (if up then t.2.1 - s.2.1 else s.2.1 - t.2.1)) hmI] else []
def coL (up : Bool) (lim a c hmI : Int) (L1 L2 : List iT) : List (List Int64) := L1.flatMap (fun s => L2.flatMap (fun t => coR up lim a c hmI s t))
theorem sq_b {r B : Int} (h1 : -B ≤ r) (h2 : r ≤ B) : 0 ≤ r * r ∧ r * r ≤ B * B := by
  have a : (B - r) * (B + r) = B * B - r * r := by rw [Int.sub_mul, Int.mul_add, Int.mul_add, Int.mul_comm r B]; omega
  have c := Int.mul_nonneg (show 0 ≤ B - r by omega) (show 0 ≤ B + r by omega)
  refine ⟨?_, by omega⟩
  rcases Int.le_total 0 r with h | h
  · exact Int.mul_nonneg h h
  · have := Int.mul_nonneg (show 0 ≤ -r by omega) (show 0 ≤ -r by omega)
    rw [Int.neg_mul_neg] at this
    exact this
set_option maxHeartbeats 4000000 in
set_option maxRecDepth 100000 in
theorem l_coI (G : sv_G) (Qr : Option Value → sv_h → Nat → Prop) (hb : sv_h) (z b : Nat) (k : Int32) (nc np pl : Nat) (R : Nat → Bool) (hm pa sz : Nat → Nat) (ly vo ar : Nat → Int32) (X Y : Nat → Nat → Int) (fc : Nat → Nat → Nat) (oc : Nat → Nat → Option Nat) (mp : Nat → mvT) (w3 : Bool) (T : List Nat × Nat → Nat → List (Int × Int × Int)) (S : List (List Nat × Nat)) (q t : Nat) (n0 : Int64) (kd : Nat) (l1 l2 x3 x4 x5 x6 : Int32) (K : ck_ G w3 b k nc np pl R hm pa sz ly vo ar X Y fc oc mp T S q t n0 kd l1 l2 x3 x4 x5 x6 hb) (hmI : Int) (hbm : bd hmI) (i : Nat) (hi : i < S.length) (f : Nat) (hf : f < 4) (j : Nat) (hj : j < S.length) (g : Nat) (hg : g < 4) (x : Nat) (hx : x < (T (S.getD i ([], 0)) f).length) (E0 : List (List Int64)) (hk : ∀ h, (∀ a, ¬ (t ≤ a ∧ a < t + 4) → h a = hb a) → tE G h t (iN hmI) (E0 ++ (T (S.getD j ([], 0)) g).flatMap (coR (decide (f = 0)) x3.toInt ((S.getD i ([], 0)).2 : Int) ((S.getD j ([], 0)).2 : Int) hmI ((T (S.getD i ([], 0)) f).getD x (0, 0, 0)))) → V G mX1_judgeCornersOf (sv_MQ G mX1_judgeCornersOf Qr) 238 [(5, .int (nI (st_ T S i f + x))), (4, .int (nI g)), (3, .int (nI j)), (2, .int (nI f)), (1, .int (nI i)), (0, .ref (b + 32))] [] h z 0 0) : ∀ (e y : Nat) (h : sv_h), y + e = (T (S.getD j ([], 0)) g).length → (∀ a, ¬ (t ≤ a ∧ a < t + 4) → h a = hb a) → tE G h t (iN hmI) (E0 ++ flT (coR (decide (f = 0)) x3.toInt ((S.getD i ([], 0)).2 : Int) ((S.getD j ([], 0)).2 : Int) hmI ((T (S.getD i ([], 0)) f).getD x (0, 0, 0))) (T (S.getD j ([], 0)) g) y) → V G mX1_judgeCornersOf (sv_MQ G mX1_judgeCornersOf Qr) 37 [(6, .int (nI (st_ T S j g + y))), (5, .int (nI (st_ T S i f + x))), (4, .int (nI g)), (3, .int (nI j)), (2, .int (nI f)), (1, .int (nI i)), (0, .ref (b + 32))] [] h z 0 0 := by
  intro e
  induction e with
  | zero =>
    intro y h hye fr H
    obtain ⟨Z, ⟨⟨fb, fcx, fcy, k1, k2, k3, k4⟩, ⟨fs9, fa, fr9, ft, k5, k6, k7, k8, k9, kA, kB⟩, ⟨fsp, kC⟩, _⟩, kD, kE, kF, kG, kH, kI⟩ := id K
    obtain ⟨z0, z1, ⟨fs, z2, z3⟩, ⟨fb_, z4, z5⟩, ⟨fl, z6, z7⟩, z8, z9, ⟨fq, zA, zB⟩, zC, zD, zE, zF⟩ := id Z
    have w1 := (fr (b + 35) (by omega)).trans z1
    have w2 : ab_I G h (b + 37) 100 fs := (fr _ (by omega)).trans z2
    have w4 : ab_I G h (b + 38) 100 fb_ := (fr _ (by omega)).trans z4
    have w6 : ab_Q G h (b + 39) 3 100 fl := (fr _ (by omega)).trans z6
    have w9 := (fr (b + 1) (by omega)).trans z9
    have wA : ab_Q G h (b + 2) 4 64 fq := (fr _ (by omega)).trans zA
    have wB : ab_I G h (b + 40) 400 fb := (fr _ (by omega)).trans k1
    have wC : ab_I G h (b + 44) 401 fs9 := (fr _ (by omega)).trans k5
    have wD : ab_I G h (b + 45) 1600 fa := (fr _ (by omega)).trans k6
    have wE : ab_I G h (b + 46) 1600 fr9 := (fr _ (by omega)).trans k7
    have wF : ab_I G h (b + 47) 1600 ft := (fr _ (by omega)).trans k8
    have wG := (fr (b + 32) (by omega)).trans kD
    have wH := (fr q (by omega)).trans kE
    obtain ⟨n1, n2⟩ := kI i hi f hf
    obtain ⟨n3, n4⟩ := kI j hj g hg
    rw [st_s] at n2 n4
    refine v_iload dX1_judgeCornersOf_37 0 rfl ?_
    refine v_aload_n dX1_judgeCornersOf_39 rfl 6 rfl ?_
    refine v_getf 1 (ci := 0) (C := RX1) (T := TX1) (N := 6) rfl iwX1_judgeCornersOf_X1 (Nat.le_of_ble_eq_true rfl) (by decide +kernel) dX1_judgeCornersOf_40 (by first | with_reducible assumption) rfl ?_
    refine v_iload_n dX1_judgeCornersOf_43 rfl 3 rfl ?_
    refine v_iload dX1_judgeCornersOf_44 2 rfl ?_
    refine v_callVq (M' := mX8_end) (n := 2) (As := [_, _]) (ci := 6) (r := (RX8, TX8, 14)) gX1_judgeCornersOf_X8_end rfl (by decide +kernel) ⟨(Nat.le_of_ble_eq_true rfl), (Nat.le_of_ble_eq_true rfl)⟩ rfl rfl dX1_judgeCornersOf_46 rfl ⟨(Nat.le_of_ble_eq_true rfl), (Nat.le_of_ble_eq_true rfl)⟩ (Nat.le_of_ble_eq_true rfl) (by first | with_reducible assumption) rfl (c_end G hb _ b k nc np pl R hm pa sz ly vo ar X Y fc oc mp w3 T S q t n0 kd l1 l2 x3 x4 x5 x6 K h fr j hj g hg) (fun v h1 z1 hq => v_pq hq ?_)
    refine v_icmp_ge (tgt := 238) dX1_judgeCornersOf_49 (by decide) (fun c_49 => ?_) (fun c_49 => ?_)
    · refine v_sub (L' := [(5, _), (4, _), (3, _), (2, _), (1, _), (0, _)]) [1, 2, 3, 4, 5, 6] rfl ?_
      have e9 : y = (T (S.getD j ([], 0)) g).length := by omega
      rw [e9, flT_all] at H
      exact hk h fr H
    · exact absurd (nI_le (show st_ T S j (g + 1) ≤ st_ T S j g + y by rw [st_s]; omega) (by omega)) c_49
  | succ e ih =>
    intro y h hye fr H
    obtain ⟨Z, ⟨⟨fb, fcx, fcy, k1, k2, k3, k4⟩, ⟨fs9, fa, fr9, ft, k5, k6, k7, k8, k9, kA, kB⟩, ⟨fsp, kC⟩, _⟩, kD, kE, kF, kG, kH, kI⟩ := id K
    obtain ⟨z0, z1, ⟨fs, z2, z3⟩, ⟨fb_, z4, z5⟩, ⟨fl, z6, z7⟩, z8, z9, ⟨fq, zA, zB⟩, zC, zD, zE, zF⟩ := id Z
    have w1 := (fr (b + 35) (by omega)).trans z1
    have w2 : ab_I G h (b + 37) 100 fs := (fr _ (by omega)).trans z2
    have w4 : ab_I G h (b + 38) 100 fb_ := (fr _ (by omega)).trans z4
    have w6 : ab_Q G h (b + 39) 3 100 fl := (fr _ (by omega)).trans z6
    have w9 := (fr (b + 1) (by omega)).trans z9
    have wA : ab_Q G h (b + 2) 4 64 fq := (fr _ (by omega)).trans zA
    have wB : ab_I G h (b + 40) 400 fb := (fr _ (by omega)).trans k1
    have wC : ab_I G h (b + 44) 401 fs9 := (fr _ (by omega)).trans k5
    have wD : ab_I G h (b + 45) 1600 fa := (fr _ (by omega)).trans k6
    have wE : ab_I G h (b + 46) 1600 fr9 := (fr _ (by omega)).trans k7
    have wF : ab_I G h (b + 47) 1600 ft := (fr _ (by omega)).trans k8
    have wG := (fr (b + 32) (by omega)).trans kD
    have wH := (fr q (by omega)).trans kE
    obtain ⟨n1, n2⟩ := kI i hi f hf
    obtain ⟨n3, n4⟩ := kI j hj g hg
    rw [st_s] at n2 n4
    have hy : y < (T (S.getD j ([], 0)) g).length := by omega
    obtain ⟨m1, m2, _⟩ := (kB i hi).2 f hf x hx
    obtain ⟨m4, m5, _⟩ := (kB j hj).2 g hg y hy
    obtain ⟨⟨d1, d2⟩, ⟨d3, d4⟩, _⟩ := n1 x hx
    obtain ⟨⟨e1, e2⟩, ⟨e3, e4⟩, _⟩ := n3 y hy
    obtain ⟨fst9, ht9⟩ := H.obj
    have s1 := sq_b (r := (((T (S.getD j ([], 0)) g).getD y (0, 0, 0)).1 - ((T (S.getD i ([], 0)) f).getD x (0, 0, 0)).1)) (B := 400000) (by omega) (by omega)
    have s2 := sq_b (r := (((T (S.getD j ([], 0)) g).getD y (0, 0, 0)).2.1 - ((T (S.getD i ([], 0)) f).getD x (0, 0, 0)).2.1)) (B := 400000) (by omega) (by omega)
    have s3 := sq_b (r := (((T (S.getD i ([], 0)) f).getD x (0, 0, 0)).2.1 - ((T (S.getD j ([], 0)) g).getD y (0, 0, 0)).2.1)) (B := 400000) (by omega) (by omega)
    have s4 := sq_b (r := x3.toInt) (B := 2147483648) (by have := x3.le_toInt; omega) (by have := x3.toInt_lt; omega)
    by_cases hf0 : f = 0
    · have hup : decide (f = 0) = true := decide_eq_true hf0
      refine v_iload dX1_judgeCornersOf_37 0 rfl ?_
      refine v_aload_n dX1_judgeCornersOf_39 rfl 6 rfl ?_
      refine v_getf 1 (ci := 0) (C := RX1) (T := TX1) (N := 6) rfl iwX1_judgeCornersOf_X1 (Nat.le_of_ble_eq_true rfl) (by decide +kernel) dX1_judgeCornersOf_40 (by first | with_reducible assumption) rfl ?_
      refine v_iload_n dX1_judgeCornersOf_43 rfl 3 rfl ?_
      refine v_iload dX1_judgeCornersOf_44 2 rfl ?_
      refine v_callVq (M' := mX8_end) (n := 2) (As := [_, _]) (ci := 6) (r := (RX8, TX8, 14)) gX1_judgeCornersOf_X8_end rfl (by decide +kernel) ⟨(Nat.le_of_ble_eq_true rfl), (Nat.le_of_ble_eq_true rfl)⟩ rfl rfl dX1_judgeCornersOf_46 rfl ⟨(Nat.le_of_ble_eq_true rfl), (Nat.le_of_ble_eq_true rfl)⟩ (Nat.le_of_ble_eq_true rfl) (by first | with_reducible assumption) rfl (c_end G hb _ b k nc np pl R hm pa sz ly vo ar X Y fc oc mp w3 T S q t n0 kd l1 l2 x3 x4 x5 x6 K h fr j hj g hg) (fun v h1 z1 hq => v_pq hq ?_)
      refine v_icmp_ge (tgt := 238) dX1_judgeCornersOf_49 (by decide) (fun c_49 => ?_) (fun c_49 => ?_)
      · exact absurd c_49 (nI_ge (show st_ T S j g + y < st_ T S j (g + 1) by rw [st_s]; omega) (by rw [st_s]; omega))
      · refine v_aload_n dX1_judgeCornersOf_52 rfl 6 rfl ?_
        refine v_getf 1 (ci := 0) (C := RX1) (T := TX1) (N := 6) rfl iwX1_judgeCornersOf_X1 (Nat.le_of_ble_eq_true rfl) (by decide +kernel) dX1_judgeCornersOf_53 (by first | with_reducible assumption) rfl ?_
        refine v_getf 12 (ci := 6) (C := RX8) (T := TX8) (N := 14) rfl iwX1_judgeCornersOf_X8 (Nat.le_of_ble_eq_true rfl) (by decide +kernel) dX1_judgeCornersOf_56 (by first | with_reducible assumption) rfl ?_
        refine v_iload dX1_judgeCornersOf_59 1 rfl ?_
        refine v_ialdS (v := iN ((T (S.getD i ([], 0)) f).getD x (0, 0, 0)).2.1) dX1_judgeCornersOf_61 (by first | with_reducible assumption) (vp_in_nI (by omega) (by omega)) (by rw [nI_clamp (by omega)]; exact m2) ?_
        refine v_istore (L' := [(7, _), (6, _), (5, _), (4, _), (3, _), (2, _), (1, _), (0, _)]) dX1_judgeCornersOf_62 (Nat.le_of_ble_eq_true rfl) rfl ?_
        refine v_aload_n dX1_judgeCornersOf_64 rfl 7 rfl ?_
        refine v_getf 1 (ci := 0) (C := RX1) (T := TX1) (N := 6) rfl iwX1_judgeCornersOf_X1 (Nat.le_of_ble_eq_true rfl) (by decide +kernel) dX1_judgeCornersOf_65 (by first | with_reducible assumption) rfl ?_
        refine v_getf 12 (ci := 6) (C := RX8) (T := TX8) (N := 14) rfl iwX1_judgeCornersOf_X8 (Nat.le_of_ble_eq_true rfl) (by decide +kernel) dX1_judgeCornersOf_68 (by first | with_reducible assumption) rfl ?_
        refine v_iload dX1_judgeCornersOf_71 1 rfl ?_
        refine v_ialdS (v := iN ((T (S.getD j ([], 0)) g).getD y (0, 0, 0)).2.1) dX1_judgeCornersOf_73 (by first | with_reducible assumption) (vp_in_nI (by omega) (by omega)) (by rw [nI_clamp (by omega)]; exact m5) ?_
        refine v_istore (L' := [(8, _), (7, _), (6, _), (5, _), (4, _), (3, _), (2, _), (1, _), (0, _)]) dX1_judgeCornersOf_74 (Nat.le_of_ble_eq_true rfl) rfl ?_
        refine v_aload_n dX1_judgeCornersOf_76 rfl 8 rfl ?_
        refine v_getf 1 (ci := 0) (C := RX1) (T := TX1) (N := 6) rfl iwX1_judgeCornersOf_X1 (Nat.le_of_ble_eq_true rfl) (by decide +kernel) dX1_judgeCornersOf_77 (by first | with_reducible assumption) rfl ?_
        refine v_getf 11 (ci := 6) (C := RX8) (T := TX8) (N := 14) rfl iwX1_judgeCornersOf_X8 (Nat.le_of_ble_eq_true rfl) (by decide +kernel) dX1_judgeCornersOf_80 (by first | with_reducible assumption) rfl ?_
        refine v_iload dX1_judgeCornersOf_83 2 rfl ?_
        refine v_ialdS (v := iN ((T (S.getD j ([], 0)) g).getD y (0, 0, 0)).1) dX1_judgeCornersOf_85 (by first | with_reducible assumption) (vp_in_nI (by omega) (by omega)) (by rw [nI_clamp (by omega)]; exact m4) ?_
        refine v_aload_n dX1_judgeCornersOf_86 rfl 8 rfl ?_
        refine v_getf 1 (ci := 0) (C := RX1) (T := TX1) (N := 6) rfl iwX1_judgeCornersOf_X1 (Nat.le_of_ble_eq_true rfl) (by decide +kernel) dX1_judgeCornersOf_87 (by first | with_reducible assumption) rfl ?_
        refine v_getf 11 (ci := 6) (C := RX8) (T := TX8) (N := 14) rfl iwX1_judgeCornersOf_X8 (Nat.le_of_ble_eq_true rfl) (by decide +kernel) dX1_judgeCornersOf_90 (by first | with_reducible assumption) rfl ?_
        refine v_iload dX1_judgeCornersOf_93 3 rfl ?_
        refine v_ialdS (v := iN ((T (S.getD i ([], 0)) f).getD x (0, 0, 0)).1) dX1_judgeCornersOf_95 (by first | with_reducible assumption) (vp_in_nI (by omega) (by omega)) (by rw [nI_clamp (by omega)]; exact m1) ?_
        refine v_isub dX1_judgeCornersOf_96 ?_
        rw [← iN_sub]
        refine v_i2l dX1_judgeCornersOf_97 rfl ?_
        rw [iN_64 (by omega) (by omega)]
        refine v_lstore (L' := [(9, _), (8, _), (7, _), (6, _), (5, _), (4, _), (3, _), (2, _), (1, _), (0, _)]) dX1_judgeCornersOf_98 (Nat.le_of_ble_eq_true rfl) rfl ?_
        refine v_iload_n dX1_judgeCornersOf_100 rfl 7 rfl ?_
        refine v_if_ne (tgt := 113) dX1_judgeCornersOf_101 (by decide) (fun c_101 => ?_) (fun c_101 => ?_)
        · exact absurd (by rw [hf0]; exact nI_0) c_101
        · refine v_iload dX1_judgeCornersOf_104 1 rfl ?_
          refine v_iload dX1_judgeCornersOf_106 2 rfl ?_
          refine v_isub dX1_judgeCornersOf_108 ?_
          rw [← iN_sub]
          refine v_i2l dX1_judgeCornersOf_109 rfl ?_
          refine v_goto (tgt := 119) dX1_judgeCornersOf_110 (by decide) ?_
          rw [iN_64 (by omega) (by omega)]
          refine v_lstore (L' := [(11, _), (9, _), (8, _), (7, _), (6, _), (5, _), (4, _), (3, _), (2, _), (1, _), (0, _)]) dX1_judgeCornersOf_119 (Nat.le_of_ble_eq_true rfl) rfl ?_
          refine v_lload dX1_judgeCornersOf_121 1 rfl ?_
          refine v_lload dX1_judgeCornersOf_123 1 rfl ?_
          refine v_lmul dX1_judgeCornersOf_125 ?_
          rw [← jN_mul]
          refine v_lload dX1_judgeCornersOf_126 0 rfl ?_
          refine v_lload dX1_judgeCornersOf_128 0 rfl ?_
          refine v_lmul dX1_judgeCornersOf_130 ?_
          rw [← jN_mul]
          refine v_ladd dX1_judgeCornersOf_131 ?_
          rw [← jN_add]
          refine v_lstore (L' := [(13, _), (11, _), (9, _), (8, _), (7, _), (6, _), (5, _), (4, _), (3, _), (2, _), (1, _), (0, _)]) dX1_judgeCornersOf_132 (Nat.le_of_ble_eq_true rfl) rfl ?_
          refine v_lload dX1_judgeCornersOf_134 2 rfl ?_
          refine v_lconst (v := 0) dX1_judgeCornersOf_136 (by decide) ?_
          refine v_lcmp_le (tgt := 232) dX1_judgeCornersOf_137 dX1_judgeCornersOf_138 (by decide) (fun c_138 => ?_) (fun c_138 => ?_)
          · refine v_iinc (j := 5) (L' := [(6, _), (13, _), (11, _), (9, _), (8, _), (7, _), (5, _), (4, _), (3, _), (2, _), (1, _), (0, _)]) (v := nI (st_ T S j g + (y + 1))) dX1_judgeCornersOf_232 rfl (nI_1 _) (Nat.le_of_ble_eq_true rfl) rfl ?_
            refine v_goto (tgt := 37) dX1_judgeCornersOf_235 (by decide) ?_
            refine v_sub (L' := [(6, _), (5, _), (4, _), (3, _), (2, _), (1, _), (0, _)]) [0, 6, 7, 8, 9, 10, 11] rfl ?_
            first
              | (have c9 := H1
                 have c7 := Int64.not_le.mp c_138
                 have c6 := Int64.not_le.mp c_145
                 have c5 := Int64.not_le.mp c_168
                 rw [Int64.lt_iff_toInt_lt, jN_to (by omega) (by omega)] at c7 c6 c5
                 rw [jN_to (by omega) (by omega)] at c5
                 refine ih (y + 1) _ (by omega) (fun a9 p9 => (fr1 a9 p9).trans (fr a9 p9)) ?_
                 rw [flT_s hy, ← List.append_assoc, hup, show coR true x3.toInt ((S.getD i ([], 0)).2 : Int) ((S.getD j ([], 0)).2 : Int) hmI ((T (S.getD i ([], 0)) f).getD x (0, 0, 0)) ((T (S.getD j ([], 0)) g).getD y (0, 0, 0)) = [_] from if_pos ⟨c7, c6, c5⟩]
                 rw [hup] at c9
                 exact c9)
              | (refine ih (y + 1) _ (by omega) fr ?_
                 rw [flT_s hy, hup, show coR true x3.toInt ((S.getD i ([], 0)).2 : Int) ((S.getD j ([], 0)).2 : Int) hmI ((T (S.getD i ([], 0)) f).getD x (0, 0, 0)) ((T (S.getD j ([], 0)) g).getD y (0, 0, 0)) = [] from if_neg (fun r9 => (by
                   first
                     | (have c5 := c_168
                        rw [Int64.le_iff_toInt_le, jN_to (by omega) (by omega), jN_to (by omega) (by omega)] at c5
                        exact absurd r9.2.2 (Int.not_lt.mpr c5))
                     | (have c6 := c_145
                        rw [Int64.le_iff_toInt_le, jN_to (by omega) (by omega)] at c6
                        exact absurd r9.2.1 (Int.not_lt.mpr c6))
                     | (have c7 := c_138
                        rw [Int64.le_iff_toInt_le, jN_to (by omega) (by omega)] at c7
                        exact absurd r9.1 (Int.not_lt.mpr c7)))), List.append_nil]
                 rw [hup] at H
                 exact H)
          · refine v_lload dX1_judgeCornersOf_141 1 rfl ?_
            refine v_lconst (v := 0) dX1_judgeCornersOf_143 (by decide) ?_
            refine v_lcmp_le (tgt := 232) dX1_judgeCornersOf_144 dX1_judgeCornersOf_145 (by decide) (fun c_145 => ?_) (fun c_145 => ?_)
            · refine v_iinc (j := 5) (L' := [(6, _), (13, _), (11, _), (9, _), (8, _), (7, _), (5, _), (4, _), (3, _), (2, _), (1, _), (0, _)]) (v := nI (st_ T S j g + (y + 1))) dX1_judgeCornersOf_232 rfl (nI_1 _) (Nat.le_of_ble_eq_true rfl) rfl ?_
              refine v_goto (tgt := 37) dX1_judgeCornersOf_235 (by decide) ?_
              refine v_sub (L' := [(6, _), (5, _), (4, _), (3, _), (2, _), (1, _), (0, _)]) [0, 6, 7, 8, 9, 10, 11] rfl ?_
              first
                | (have c9 := H1
                   have c7 := Int64.not_le.mp c_138
                   have c6 := Int64.not_le.mp c_145
                   have c5 := Int64.not_le.mp c_168
                   rw [Int64.lt_iff_toInt_lt, jN_to (by omega) (by omega)] at c7 c6 c5
                   rw [jN_to (by omega) (by omega)] at c5
                   refine ih (y + 1) _ (by omega) (fun a9 p9 => (fr1 a9 p9).trans (fr a9 p9)) ?_
                   rw [flT_s hy, ← List.append_assoc, hup, show coR true x3.toInt ((S.getD i ([], 0)).2 : Int) ((S.getD j ([], 0)).2 : Int) hmI ((T (S.getD i ([], 0)) f).getD x (0, 0, 0)) ((T (S.getD j ([], 0)) g).getD y (0, 0, 0)) = [_] from if_pos ⟨c7, c6, c5⟩]
                   rw [hup] at c9
                   exact c9)
                | (refine ih (y + 1) _ (by omega) fr ?_
                   rw [flT_s hy, hup, show coR true x3.toInt ((S.getD i ([], 0)).2 : Int) ((S.getD j ([], 0)).2 : Int) hmI ((T (S.getD i ([], 0)) f).getD x (0, 0, 0)) ((T (S.getD j ([], 0)) g).getD y (0, 0, 0)) = [] from if_neg (fun r9 => (by
                     first
                       | (have c5 := c_168
                          rw [Int64.le_iff_toInt_le, jN_to (by omega) (by omega), jN_to (by omega) (by omega)] at c5
                          exact absurd r9.2.2 (Int.not_lt.mpr c5))
                       | (have c6 := c_145
                          rw [Int64.le_iff_toInt_le, jN_to (by omega) (by omega)] at c6
                          exact absurd r9.2.1 (Int.not_lt.mpr c6))
                       | (have c7 := c_138
                          rw [Int64.le_iff_toInt_le, jN_to (by omega) (by omega)] at c7
                          exact absurd r9.1 (Int.not_lt.mpr c7)))), List.append_nil]
                   rw [hup] at H
                   exact H)
            · refine v_lload dX1_judgeCornersOf_148 0 rfl ?_
              refine v_aload_n dX1_judgeCornersOf_150 rfl 11 rfl ?_
              refine v_getf 4 (ci := 0) (C := RX1) (T := TX1) (N := 6) rfl iwX1_judgeCornersOf_X1 (Nat.le_of_ble_eq_true rfl) (by decide +kernel) dX1_judgeCornersOf_151 (by first | with_reducible assumption) rfl ?_
              refine v_getf 4 (ci := 5) (C := RX7) (T := TX7) (N := 8) rfl iwX1_judgeCornersOf_X7 (Nat.le_of_ble_eq_true rfl) (by decide +kernel) dX1_judgeCornersOf_154 (by first | with_reducible assumption) rfl ?_
              refine v_i2l dX1_judgeCornersOf_157 rfl ?_
              refine v_aload_n dX1_judgeCornersOf_158 rfl 11 rfl ?_
              refine v_getf 4 (ci := 0) (C := RX1) (T := TX1) (N := 6) rfl iwX1_judgeCornersOf_X1 (Nat.le_of_ble_eq_true rfl) (by decide +kernel) dX1_judgeCornersOf_159 (by first | with_reducible assumption) rfl ?_
              refine v_getf 4 (ci := 5) (C := RX7) (T := TX7) (N := 8) rfl iwX1_judgeCornersOf_X7 (Nat.le_of_ble_eq_true rfl) (by decide +kernel) dX1_judgeCornersOf_162 (by first | with_reducible assumption) rfl ?_
              refine v_i2l dX1_judgeCornersOf_165 rfl ?_
              refine v_lmul dX1_judgeCornersOf_166 ?_
              rw [← jN_i, ← jN_mul]
              refine v_lcmp_ge (tgt := 232) dX1_judgeCornersOf_167 dX1_judgeCornersOf_168 (by decide) (fun c_168 => ?_) (fun c_168 => ?_)
              · refine v_iinc (j := 5) (L' := [(6, _), (13, _), (11, _), (9, _), (8, _), (7, _), (5, _), (4, _), (3, _), (2, _), (1, _), (0, _)]) (v := nI (st_ T S j g + (y + 1))) dX1_judgeCornersOf_232 rfl (nI_1 _) (Nat.le_of_ble_eq_true rfl) rfl ?_
                refine v_goto (tgt := 37) dX1_judgeCornersOf_235 (by decide) ?_
                refine v_sub (L' := [(6, _), (5, _), (4, _), (3, _), (2, _), (1, _), (0, _)]) [0, 6, 7, 8, 9, 10, 11] rfl ?_
                first
                  | (have c9 := H1
                     have c7 := Int64.not_le.mp c_138
                     have c6 := Int64.not_le.mp c_145
                     have c5 := Int64.not_le.mp c_168
                     rw [Int64.lt_iff_toInt_lt, jN_to (by omega) (by omega)] at c7 c6 c5
                     rw [jN_to (by omega) (by omega)] at c5
                     refine ih (y + 1) _ (by omega) (fun a9 p9 => (fr1 a9 p9).trans (fr a9 p9)) ?_
                     rw [flT_s hy, ← List.append_assoc, hup, show coR true x3.toInt ((S.getD i ([], 0)).2 : Int) ((S.getD j ([], 0)).2 : Int) hmI ((T (S.getD i ([], 0)) f).getD x (0, 0, 0)) ((T (S.getD j ([], 0)) g).getD y (0, 0, 0)) = [_] from if_pos ⟨c7, c6, c5⟩]
                     rw [hup] at c9
                     exact c9)
                  | (refine ih (y + 1) _ (by omega) fr ?_
                     rw [flT_s hy, hup, show coR true x3.toInt ((S.getD i ([], 0)).2 : Int) ((S.getD j ([], 0)).2 : Int) hmI ((T (S.getD i ([], 0)) f).getD x (0, 0, 0)) ((T (S.getD j ([], 0)) g).getD y (0, 0, 0)) = [] from if_neg (fun r9 => (by
                       first
                         | (have c5 := c_168
                            rw [Int64.le_iff_toInt_le, jN_to (by omega) (by omega), jN_to (by omega) (by omega)] at c5
                            exact absurd r9.2.2 (Int.not_lt.mpr c5))
                         | (have c6 := c_145
                            rw [Int64.le_iff_toInt_le, jN_to (by omega) (by omega)] at c6
                            exact absurd r9.2.1 (Int.not_lt.mpr c6))
                         | (have c7 := c_138
                            rw [Int64.le_iff_toInt_le, jN_to (by omega) (by omega)] at c7
                            exact absurd r9.1 (Int.not_lt.mpr c7)))), List.append_nil]
                     rw [hup] at H
                     exact H)
              · refine v_aload_n dX1_judgeCornersOf_171 rfl 11 rfl ?_
                refine v_getf 5 (ci := 0) (C := RX1) (T := TX1) (N := 6) rfl iwX1_judgeCornersOf_X1 (Nat.le_of_ble_eq_true rfl) (by decide +kernel) dX1_judgeCornersOf_172 (by first | with_reducible assumption) rfl ?_
                refine v_aload_n dX1_judgeCornersOf_175 rfl 11 rfl ?_
                refine v_getf 1 (ci := 0) (C := RX1) (T := TX1) (N := 6) rfl iwX1_judgeCornersOf_X1 (Nat.le_of_ble_eq_true rfl) (by decide +kernel) dX1_judgeCornersOf_176 (by first | with_reducible assumption) rfl ?_
                refine v_getf 11 (ci := 6) (C := RX8) (T := TX8) (N := 14) rfl iwX1_judgeCornersOf_X8 (Nat.le_of_ble_eq_true rfl) (by decide +kernel) dX1_judgeCornersOf_179 (by first | with_reducible assumption) rfl ?_
                refine v_iload dX1_judgeCornersOf_182 6 rfl ?_
                refine v_ialdS (v := iN ((T (S.getD i ([], 0)) f).getD x (0, 0, 0)).1) dX1_judgeCornersOf_184 (by first | with_reducible assumption) (vp_in_nI (by omega) (by omega)) (by rw [nI_clamp (by omega)]; exact m1) ?_
                refine v_iload dX1_judgeCornersOf_185 4 rfl ?_
                refine v_iload dX1_judgeCornersOf_187 3 rfl ?_
                refine v_mmin (by decide +kernel) (by decide +kernel) (by decide +kernel) (by decide +kernel) dX1_judgeCornersOf_189 (Nat.le_of_ble_eq_true rfl) (Nat.le_of_ble_eq_true rfl) (Nat.le_of_ble_eq_true rfl) (Nat.le_of_ble_eq_true rfl) ?_
                rw [gmI_min (by omega) (by omega)]
                refine v_aload_n dX1_judgeCornersOf_192 rfl 11 rfl ?_
                refine v_getf 1 (ci := 0) (C := RX1) (T := TX1) (N := 6) rfl iwX1_judgeCornersOf_X1 (Nat.le_of_ble_eq_true rfl) (by decide +kernel) dX1_judgeCornersOf_193 (by first | with_reducible assumption) rfl ?_
                refine v_getf 11 (ci := 6) (C := RX8) (T := TX8) (N := 14) rfl iwX1_judgeCornersOf_X8 (Nat.le_of_ble_eq_true rfl) (by decide +kernel) dX1_judgeCornersOf_196 (by first | with_reducible assumption) rfl ?_
                refine v_iload dX1_judgeCornersOf_199 5 rfl ?_
                refine v_ialdS (v := iN ((T (S.getD j ([], 0)) g).getD y (0, 0, 0)).1) dX1_judgeCornersOf_201 (by first | with_reducible assumption) (vp_in_nI (by omega) (by omega)) (by rw [nI_clamp (by omega)]; exact m4) ?_
                refine v_iload dX1_judgeCornersOf_202 4 rfl ?_
                refine v_iload dX1_judgeCornersOf_204 3 rfl ?_
                refine v_mmax (by decide +kernel) (by decide +kernel) (by decide +kernel) (by decide +kernel) dX1_judgeCornersOf_206 (Nat.le_of_ble_eq_true rfl) (Nat.le_of_ble_eq_true rfl) (Nat.le_of_ble_eq_true rfl) (Nat.le_of_ble_eq_true rfl) ?_
                rw [gmI_max (by omega) (by omega)]
                refine v_aload_n dX1_judgeCornersOf_209 rfl 11 rfl ?_
                refine v_getf 1 (ci := 0) (C := RX1) (T := TX1) (N := 6) rfl iwX1_judgeCornersOf_X1 (Nat.le_of_ble_eq_true rfl) (by decide +kernel) dX1_judgeCornersOf_210 (by first | with_reducible assumption) rfl ?_
                refine v_getf 3 (ci := 6) (C := RX8) (T := TX8) (N := 14) rfl iwX1_judgeCornersOf_X8 (Nat.le_of_ble_eq_true rfl) (by decide +kernel) dX1_judgeCornersOf_213 (by first | with_reducible assumption) rfl ?_
                refine v_iload_n dX1_judgeCornersOf_216 rfl 10 rfl ?_
                refine v_ialdS (v := nI (S.getD i ([], 0)).2) dX1_judgeCornersOf_217 (by first | with_reducible assumption) (vp_in_nI (by omega) (by omega)) (by rw [nI_clamp (by omega)]; exact z3 i hi) ?_
                refine v_aload_n dX1_judgeCornersOf_218 rfl 11 rfl ?_
                refine v_getf 1 (ci := 0) (C := RX1) (T := TX1) (N := 6) rfl iwX1_judgeCornersOf_X1 (Nat.le_of_ble_eq_true rfl) (by decide +kernel) dX1_judgeCornersOf_219 (by first | with_reducible assumption) rfl ?_
                refine v_getf 3 (ci := 6) (C := RX8) (T := TX8) (N := 14) rfl iwX1_judgeCornersOf_X8 (Nat.le_of_ble_eq_true rfl) (by decide +kernel) dX1_judgeCornersOf_222 (by first | with_reducible assumption) rfl ?_
                refine v_iload_n dX1_judgeCornersOf_225 rfl 8 rfl ?_
                refine v_ialdS (v := nI (S.getD j ([], 0)).2) dX1_judgeCornersOf_226 (by first | with_reducible assumption) (vp_in_nI (by omega) (by omega)) (by rw [nI_clamp (by omega)]; exact z3 j hj) ?_
                refine v_lload dX1_judgeCornersOf_227 0 rfl ?_
                refine v_callVq (M' := mX10_add) (n := 7) (As := [_, _, _, _, _, _, _]) (ci := 8) (r := (RX10, TX10, 7)) gX1_judgeCornersOf_X10_add rfl (by decide +kernel) ⟨(Nat.le_of_ble_eq_true rfl), (Nat.le_of_ble_eq_true rfl)⟩ rfl rfl dX1_judgeCornersOf_229 rfl ⟨(Nat.le_of_ble_eq_true rfl), (Nat.le_of_ble_eq_true rfl)⟩ (Nat.le_of_ble_eq_true rfl) (by first | with_reducible assumption) rfl (c_addN G h _ t hmI _ H ((T (S.getD i ([], 0)) f).getD x (0, 0, 0)).1 (min ((T (S.getD i ([], 0)) f).getD x (0, 0, 0)).2.1 ((T (S.getD j ([], 0)) g).getD y (0, 0, 0)).2.1) ((T (S.getD j ([], 0)) g).getD y (0, 0, 0)).1 (max ((T (S.getD i ([], 0)) f).getD x (0, 0, 0)).2.1 ((T (S.getD j ([], 0)) g).getD y (0, 0, 0)).2.1) ((S.getD i ([], 0)).2 : Int) ((S.getD j ([], 0)).2 : Int) _ _ (show bd _ from by unfold bd; omega) (show bd _ from by unfold bd; omega) (show bd _ from by unfold bd; omega) (show bd _ from by unfold bd; omega) (show bd ((S.getD i ([], 0)).2 : Int) from by have := (zE i hi).1; unfold bd; omega) (show bd ((S.getD j ([], 0)).2 : Int) from by have := (zE j hj).1; unfold bd; omega) hbm rfl rfl rfl) (fun v h2 z2 hq9 => ?_)
                obtain ⟨rfl, rfl, H1, fr1⟩ := hq9
                refine v_iinc (j := 5) (L' := [(6, _), (13, _), (11, _), (9, _), (8, _), (7, _), (5, _), (4, _), (3, _), (2, _), (1, _), (0, _)]) (v := nI (st_ T S j g + (y + 1))) dX1_judgeCornersOf_232 rfl (nI_1 _) (Nat.le_of_ble_eq_true rfl) rfl ?_
                refine v_goto (tgt := 37) dX1_judgeCornersOf_235 (by decide) ?_
                refine v_sub (L' := [(6, _), (5, _), (4, _), (3, _), (2, _), (1, _), (0, _)]) [0, 6, 7, 8, 9, 10, 11] rfl ?_
                first
                  | (have c9 := H1
                     have c7 := Int64.not_le.mp c_138
                     have c6 := Int64.not_le.mp c_145
                     have c5 := Int64.not_le.mp c_168
                     rw [Int64.lt_iff_toInt_lt, jN_to (by omega) (by omega)] at c7 c6 c5
                     rw [jN_to (by omega) (by omega)] at c5
                     refine ih (y + 1) _ (by omega) (fun a9 p9 => (fr1 a9 p9).trans (fr a9 p9)) ?_
                     rw [flT_s hy, ← List.append_assoc, hup, show coR true x3.toInt ((S.getD i ([], 0)).2 : Int) ((S.getD j ([], 0)).2 : Int) hmI ((T (S.getD i ([], 0)) f).getD x (0, 0, 0)) ((T (S.getD j ([], 0)) g).getD y (0, 0, 0)) = [_] from if_pos ⟨c7, c6, c5⟩]
                     rw [hup] at c9
                     exact c9)
                  | (refine ih (y + 1) _ (by omega) fr ?_
                     rw [flT_s hy, hup, show coR true x3.toInt ((S.getD i ([], 0)).2 : Int) ((S.getD j ([], 0)).2 : Int) hmI ((T (S.getD i ([], 0)) f).getD x (0, 0, 0)) ((T (S.getD j ([], 0)) g).getD y (0, 0, 0)) = [] from if_neg (fun r9 => (by
                       first
                         | (have c5 := c_168
                            rw [Int64.le_iff_toInt_le, jN_to (by omega) (by omega), jN_to (by omega) (by omega)] at c5
                            exact absurd r9.2.2 (Int.not_lt.mpr c5))
                         | (have c6 := c_145
                            rw [Int64.le_iff_toInt_le, jN_to (by omega) (by omega)] at c6
                            exact absurd r9.2.1 (Int.not_lt.mpr c6))
                         | (have c7 := c_138
                            rw [Int64.le_iff_toInt_le, jN_to (by omega) (by omega)] at c7
                            exact absurd r9.1 (Int.not_lt.mpr c7)))), List.append_nil]
                     rw [hup] at H
                     exact H)
    · have hup : decide (f = 0) = false := decide_eq_false hf0
      refine v_iload dX1_judgeCornersOf_37 0 rfl ?_
      refine v_aload_n dX1_judgeCornersOf_39 rfl 6 rfl ?_
      refine v_getf 1 (ci := 0) (C := RX1) (T := TX1) (N := 6) rfl iwX1_judgeCornersOf_X1 (Nat.le_of_ble_eq_true rfl) (by decide +kernel) dX1_judgeCornersOf_40 (by first | with_reducible assumption) rfl ?_
      refine v_iload_n dX1_judgeCornersOf_43 rfl 3 rfl ?_
      refine v_iload dX1_judgeCornersOf_44 2 rfl ?_
      refine v_callVq (M' := mX8_end) (n := 2) (As := [_, _]) (ci := 6) (r := (RX8, TX8, 14)) gX1_judgeCornersOf_X8_end rfl (by decide +kernel) ⟨(Nat.le_of_ble_eq_true rfl), (Nat.le_of_ble_eq_true rfl)⟩ rfl rfl dX1_judgeCornersOf_46 rfl ⟨(Nat.le_of_ble_eq_true rfl), (Nat.le_of_ble_eq_true rfl)⟩ (Nat.le_of_ble_eq_true rfl) (by first | with_reducible assumption) rfl (c_end G hb _ b k nc np pl R hm pa sz ly vo ar X Y fc oc mp w3 T S q t n0 kd l1 l2 x3 x4 x5 x6 K h fr j hj g hg) (fun v h1 z1 hq => v_pq hq ?_)
      refine v_icmp_ge (tgt := 238) dX1_judgeCornersOf_49 (by decide) (fun c_49 => ?_) (fun c_49 => ?_)
      · exact absurd c_49 (nI_ge (show st_ T S j g + y < st_ T S j (g + 1) by rw [st_s]; omega) (by rw [st_s]; omega))
      · refine v_aload_n dX1_judgeCornersOf_52 rfl 6 rfl ?_
        refine v_getf 1 (ci := 0) (C := RX1) (T := TX1) (N := 6) rfl iwX1_judgeCornersOf_X1 (Nat.le_of_ble_eq_true rfl) (by decide +kernel) dX1_judgeCornersOf_53 (by first | with_reducible assumption) rfl ?_
        refine v_getf 12 (ci := 6) (C := RX8) (T := TX8) (N := 14) rfl iwX1_judgeCornersOf_X8 (Nat.le_of_ble_eq_true rfl) (by decide +kernel) dX1_judgeCornersOf_56 (by first | with_reducible assumption) rfl ?_
        refine v_iload dX1_judgeCornersOf_59 1 rfl ?_
        refine v_ialdS (v := iN ((T (S.getD i ([], 0)) f).getD x (0, 0, 0)).2.1) dX1_judgeCornersOf_61 (by first | with_reducible assumption) (vp_in_nI (by omega) (by omega)) (by rw [nI_clamp (by omega)]; exact m2) ?_
        refine v_istore (L' := [(7, _), (6, _), (5, _), (4, _), (3, _), (2, _), (1, _), (0, _)]) dX1_judgeCornersOf_62 (Nat.le_of_ble_eq_true rfl) rfl ?_
        refine v_aload_n dX1_judgeCornersOf_64 rfl 7 rfl ?_
        refine v_getf 1 (ci := 0) (C := RX1) (T := TX1) (N := 6) rfl iwX1_judgeCornersOf_X1 (Nat.le_of_ble_eq_true rfl) (by decide +kernel) dX1_judgeCornersOf_65 (by first | with_reducible assumption) rfl ?_
        refine v_getf 12 (ci := 6) (C := RX8) (T := TX8) (N := 14) rfl iwX1_judgeCornersOf_X8 (Nat.le_of_ble_eq_true rfl) (by decide +kernel) dX1_judgeCornersOf_68 (by first | with_reducible assumption) rfl ?_
        refine v_iload dX1_judgeCornersOf_71 1 rfl ?_
        refine v_ialdS (v := iN ((T (S.getD j ([], 0)) g).getD y (0, 0, 0)).2.1) dX1_judgeCornersOf_73 (by first | with_reducible assumption) (vp_in_nI (by omega) (by omega)) (by rw [nI_clamp (by omega)]; exact m5) ?_
        refine v_istore (L' := [(8, _), (7, _), (6, _), (5, _), (4, _), (3, _), (2, _), (1, _), (0, _)]) dX1_judgeCornersOf_74 (Nat.le_of_ble_eq_true rfl) rfl ?_
        refine v_aload_n dX1_judgeCornersOf_76 rfl 8 rfl ?_
        refine v_getf 1 (ci := 0) (C := RX1) (T := TX1) (N := 6) rfl iwX1_judgeCornersOf_X1 (Nat.le_of_ble_eq_true rfl) (by decide +kernel) dX1_judgeCornersOf_77 (by first | with_reducible assumption) rfl ?_
        refine v_getf 11 (ci := 6) (C := RX8) (T := TX8) (N := 14) rfl iwX1_judgeCornersOf_X8 (Nat.le_of_ble_eq_true rfl) (by decide +kernel) dX1_judgeCornersOf_80 (by first | with_reducible assumption) rfl ?_
        refine v_iload dX1_judgeCornersOf_83 2 rfl ?_
        refine v_ialdS (v := iN ((T (S.getD j ([], 0)) g).getD y (0, 0, 0)).1) dX1_judgeCornersOf_85 (by first | with_reducible assumption) (vp_in_nI (by omega) (by omega)) (by rw [nI_clamp (by omega)]; exact m4) ?_
        refine v_aload_n dX1_judgeCornersOf_86 rfl 8 rfl ?_
        refine v_getf 1 (ci := 0) (C := RX1) (T := TX1) (N := 6) rfl iwX1_judgeCornersOf_X1 (Nat.le_of_ble_eq_true rfl) (by decide +kernel) dX1_judgeCornersOf_87 (by first | with_reducible assumption) rfl ?_
        refine v_getf 11 (ci := 6) (C := RX8) (T := TX8) (N := 14) rfl iwX1_judgeCornersOf_X8 (Nat.le_of_ble_eq_true rfl) (by decide +kernel) dX1_judgeCornersOf_90 (by first | with_reducible assumption) rfl ?_
        refine v_iload dX1_judgeCornersOf_93 3 rfl ?_
        refine v_ialdS (v := iN ((T (S.getD i ([], 0)) f).getD x (0, 0, 0)).1) dX1_judgeCornersOf_95 (by first | with_reducible assumption) (vp_in_nI (by omega) (by omega)) (by rw [nI_clamp (by omega)]; exact m1) ?_
        refine v_isub dX1_judgeCornersOf_96 ?_
        rw [← iN_sub]
        refine v_i2l dX1_judgeCornersOf_97 rfl ?_
        rw [iN_64 (by omega) (by omega)]
        refine v_lstore (L' := [(9, _), (8, _), (7, _), (6, _), (5, _), (4, _), (3, _), (2, _), (1, _), (0, _)]) dX1_judgeCornersOf_98 (Nat.le_of_ble_eq_true rfl) rfl ?_
        refine v_iload_n dX1_judgeCornersOf_100 rfl 7 rfl ?_
        refine v_if_ne (tgt := 113) dX1_judgeCornersOf_101 (by decide) (fun c_101 => ?_) (fun c_101 => ?_)
        · refine v_iload dX1_judgeCornersOf_113 2 rfl ?_
          refine v_iload dX1_judgeCornersOf_115 1 rfl ?_
          refine v_isub dX1_judgeCornersOf_117 ?_
          rw [← iN_sub]
          refine v_i2l dX1_judgeCornersOf_118 rfl ?_
          rw [iN_64 (by omega) (by omega)]
          refine v_lstore (L' := [(11, _), (9, _), (8, _), (7, _), (6, _), (5, _), (4, _), (3, _), (2, _), (1, _), (0, _)]) dX1_judgeCornersOf_119 (Nat.le_of_ble_eq_true rfl) rfl ?_
          refine v_lload dX1_judgeCornersOf_121 1 rfl ?_
          refine v_lload dX1_judgeCornersOf_123 1 rfl ?_
          refine v_lmul dX1_judgeCornersOf_125 ?_
          rw [← jN_mul]
          refine v_lload dX1_judgeCornersOf_126 0 rfl ?_
          refine v_lload dX1_judgeCornersOf_128 0 rfl ?_
          refine v_lmul dX1_judgeCornersOf_130 ?_
          rw [← jN_mul]
          refine v_ladd dX1_judgeCornersOf_131 ?_
          rw [← jN_add]
          refine v_lstore (L' := [(13, _), (11, _), (9, _), (8, _), (7, _), (6, _), (5, _), (4, _), (3, _), (2, _), (1, _), (0, _)]) dX1_judgeCornersOf_132 (Nat.le_of_ble_eq_true rfl) rfl ?_
          refine v_lload dX1_judgeCornersOf_134 2 rfl ?_
          refine v_lconst (v := 0) dX1_judgeCornersOf_136 (by decide) ?_
          refine v_lcmp_le (tgt := 232) dX1_judgeCornersOf_137 dX1_judgeCornersOf_138 (by decide) (fun c_138 => ?_) (fun c_138 => ?_)
          · refine v_iinc (j := 5) (L' := [(6, _), (13, _), (11, _), (9, _), (8, _), (7, _), (5, _), (4, _), (3, _), (2, _), (1, _), (0, _)]) (v := nI (st_ T S j g + (y + 1))) dX1_judgeCornersOf_232 rfl (nI_1 _) (Nat.le_of_ble_eq_true rfl) rfl ?_
            refine v_goto (tgt := 37) dX1_judgeCornersOf_235 (by decide) ?_
            refine v_sub (L' := [(6, _), (5, _), (4, _), (3, _), (2, _), (1, _), (0, _)]) [0, 6, 7, 8, 9, 10, 11] rfl ?_
            first
              | (have c9 := H1
                 have c7 := Int64.not_le.mp c_138
                 have c6 := Int64.not_le.mp c_145
                 have c5 := Int64.not_le.mp c_168
                 rw [Int64.lt_iff_toInt_lt, jN_to (by omega) (by omega)] at c7 c6 c5
                 rw [jN_to (by omega) (by omega)] at c5
                 refine ih (y + 1) _ (by omega) (fun a9 p9 => (fr1 a9 p9).trans (fr a9 p9)) ?_
                 rw [flT_s hy, ← List.append_assoc, hup, show coR false x3.toInt ((S.getD i ([], 0)).2 : Int) ((S.getD j ([], 0)).2 : Int) hmI ((T (S.getD i ([], 0)) f).getD x (0, 0, 0)) ((T (S.getD j ([], 0)) g).getD y (0, 0, 0)) = [_] from if_pos ⟨c7, c6, c5⟩]
                 rw [hup] at c9
                 exact c9)
              | (refine ih (y + 1) _ (by omega) fr ?_
                 rw [flT_s hy, hup, show coR false x3.toInt ((S.getD i ([], 0)).2 : Int) ((S.getD j ([], 0)).2 : Int) hmI ((T (S.getD i ([], 0)) f).getD x (0, 0, 0)) ((T (S.getD j ([], 0)) g).getD y (0, 0, 0)) = [] from if_neg (fun r9 => (by
                   first
                     | (have c5 := c_168
                        rw [Int64.le_iff_toInt_le, jN_to (by omega) (by omega), jN_to (by omega) (by omega)] at c5
                        exact absurd r9.2.2 (Int.not_lt.mpr c5))
                     | (have c6 := c_145
                        rw [Int64.le_iff_toInt_le, jN_to (by omega) (by omega)] at c6
                        exact absurd r9.2.1 (Int.not_lt.mpr c6))
                     | (have c7 := c_138
                        rw [Int64.le_iff_toInt_le, jN_to (by omega) (by omega)] at c7
                        exact absurd r9.1 (Int.not_lt.mpr c7)))), List.append_nil]
                 rw [hup] at H
                 exact H)
          · refine v_lload dX1_judgeCornersOf_141 1 rfl ?_
            refine v_lconst (v := 0) dX1_judgeCornersOf_143 (by decide) ?_
            refine v_lcmp_le (tgt := 232) dX1_judgeCornersOf_144 dX1_judgeCornersOf_145 (by decide) (fun c_145 => ?_) (fun c_145 => ?_)
            · refine v_iinc (j := 5) (L' := [(6, _), (13, _), (11, _), (9, _), (8, _), (7, _), (5, _), (4, _), (3, _), (2, _), (1, _), (0, _)]) (v := nI (st_ T S j g + (y + 1))) dX1_judgeCornersOf_232 rfl (nI_1 _) (Nat.le_of_ble_eq_true rfl) rfl ?_
              refine v_goto (tgt := 37) dX1_judgeCornersOf_235 (by decide) ?_
              refine v_sub (L' := [(6, _), (5, _), (4, _), (3, _), (2, _), (1, _), (0, _)]) [0, 6, 7, 8, 9, 10, 11] rfl ?_
              first
                | (have c9 := H1
                   have c7 := Int64.not_le.mp c_138
                   have c6 := Int64.not_le.mp c_145
                   have c5 := Int64.not_le.mp c_168
                   rw [Int64.lt_iff_toInt_lt, jN_to (by omega) (by omega)] at c7 c6 c5
                   rw [jN_to (by omega) (by omega)] at c5
                   refine ih (y + 1) _ (by omega) (fun a9 p9 => (fr1 a9 p9).trans (fr a9 p9)) ?_
                   rw [flT_s hy, ← List.append_assoc, hup, show coR false x3.toInt ((S.getD i ([], 0)).2 : Int) ((S.getD j ([], 0)).2 : Int) hmI ((T (S.getD i ([], 0)) f).getD x (0, 0, 0)) ((T (S.getD j ([], 0)) g).getD y (0, 0, 0)) = [_] from if_pos ⟨c7, c6, c5⟩]
                   rw [hup] at c9
                   exact c9)
                | (refine ih (y + 1) _ (by omega) fr ?_
                   rw [flT_s hy, hup, show coR false x3.toInt ((S.getD i ([], 0)).2 : Int) ((S.getD j ([], 0)).2 : Int) hmI ((T (S.getD i ([], 0)) f).getD x (0, 0, 0)) ((T (S.getD j ([], 0)) g).getD y (0, 0, 0)) = [] from if_neg (fun r9 => (by
                     first
                       | (have c5 := c_168
                          rw [Int64.le_iff_toInt_le, jN_to (by omega) (by omega), jN_to (by omega) (by omega)] at c5
                          exact absurd r9.2.2 (Int.not_lt.mpr c5))
                       | (have c6 := c_145
                          rw [Int64.le_iff_toInt_le, jN_to (by omega) (by omega)] at c6
                          exact absurd r9.2.1 (Int.not_lt.mpr c6))
                       | (have c7 := c_138
                          rw [Int64.le_iff_toInt_le, jN_to (by omega) (by omega)] at c7
                          exact absurd r9.1 (Int.not_lt.mpr c7)))), List.append_nil]
                   rw [hup] at H
                   exact H)
            · refine v_lload dX1_judgeCornersOf_148 0 rfl ?_
              refine v_aload_n dX1_judgeCornersOf_150 rfl 11 rfl ?_
              refine v_getf 4 (ci := 0) (C := RX1) (T := TX1) (N := 6) rfl iwX1_judgeCornersOf_X1 (Nat.le_of_ble_eq_true rfl) (by decide +kernel) dX1_judgeCornersOf_151 (by first | with_reducible assumption) rfl ?_
              refine v_getf 4 (ci := 5) (C := RX7) (T := TX7) (N := 8) rfl iwX1_judgeCornersOf_X7 (Nat.le_of_ble_eq_true rfl) (by decide +kernel) dX1_judgeCornersOf_154 (by first | with_reducible assumption) rfl ?_
              refine v_i2l dX1_judgeCornersOf_157 rfl ?_
              refine v_aload_n dX1_judgeCornersOf_158 rfl 11 rfl ?_
              refine v_getf 4 (ci := 0) (C := RX1) (T := TX1) (N := 6) rfl iwX1_judgeCornersOf_X1 (Nat.le_of_ble_eq_true rfl) (by decide +kernel) dX1_judgeCornersOf_159 (by first | with_reducible assumption) rfl ?_
              refine v_getf 4 (ci := 5) (C := RX7) (T := TX7) (N := 8) rfl iwX1_judgeCornersOf_X7 (Nat.le_of_ble_eq_true rfl) (by decide +kernel) dX1_judgeCornersOf_162 (by first | with_reducible assumption) rfl ?_
              refine v_i2l dX1_judgeCornersOf_165 rfl ?_
              refine v_lmul dX1_judgeCornersOf_166 ?_
              rw [← jN_i, ← jN_mul]
              refine v_lcmp_ge (tgt := 232) dX1_judgeCornersOf_167 dX1_judgeCornersOf_168 (by decide) (fun c_168 => ?_) (fun c_168 => ?_)
              · refine v_iinc (j := 5) (L' := [(6, _), (13, _), (11, _), (9, _), (8, _), (7, _), (5, _), (4, _), (3, _), (2, _), (1, _), (0, _)]) (v := nI (st_ T S j g + (y + 1))) dX1_judgeCornersOf_232 rfl (nI_1 _) (Nat.le_of_ble_eq_true rfl) rfl ?_
                refine v_goto (tgt := 37) dX1_judgeCornersOf_235 (by decide) ?_
                refine v_sub (L' := [(6, _), (5, _), (4, _), (3, _), (2, _), (1, _), (0, _)]) [0, 6, 7, 8, 9, 10, 11] rfl ?_
                first
                  | (have c9 := H1
                     have c7 := Int64.not_le.mp c_138
                     have c6 := Int64.not_le.mp c_145
                     have c5 := Int64.not_le.mp c_168
                     rw [Int64.lt_iff_toInt_lt, jN_to (by omega) (by omega)] at c7 c6 c5
                     rw [jN_to (by omega) (by omega)] at c5
                     refine ih (y + 1) _ (by omega) (fun a9 p9 => (fr1 a9 p9).trans (fr a9 p9)) ?_
                     rw [flT_s hy, ← List.append_assoc, hup, show coR false x3.toInt ((S.getD i ([], 0)).2 : Int) ((S.getD j ([], 0)).2 : Int) hmI ((T (S.getD i ([], 0)) f).getD x (0, 0, 0)) ((T (S.getD j ([], 0)) g).getD y (0, 0, 0)) = [_] from if_pos ⟨c7, c6, c5⟩]
                     rw [hup] at c9
                     exact c9)
                  | (refine ih (y + 1) _ (by omega) fr ?_
                     rw [flT_s hy, hup, show coR false x3.toInt ((S.getD i ([], 0)).2 : Int) ((S.getD j ([], 0)).2 : Int) hmI ((T (S.getD i ([], 0)) f).getD x (0, 0, 0)) ((T (S.getD j ([], 0)) g).getD y (0, 0, 0)) = [] from if_neg (fun r9 => (by
                       first
                         | (have c5 := c_168
                            rw [Int64.le_iff_toInt_le, jN_to (by omega) (by omega), jN_to (by omega) (by omega)] at c5
                            exact absurd r9.2.2 (Int.not_lt.mpr c5))
                         | (have c6 := c_145
                            rw [Int64.le_iff_toInt_le, jN_to (by omega) (by omega)] at c6
                            exact absurd r9.2.1 (Int.not_lt.mpr c6))
                         | (have c7 := c_138
                            rw [Int64.le_iff_toInt_le, jN_to (by omega) (by omega)] at c7
                            exact absurd r9.1 (Int.not_lt.mpr c7)))), List.append_nil]
                     rw [hup] at H
                     exact H)
              · refine v_aload_n dX1_judgeCornersOf_171 rfl 11 rfl ?_
                refine v_getf 5 (ci := 0) (C := RX1) (T := TX1) (N := 6) rfl iwX1_judgeCornersOf_X1 (Nat.le_of_ble_eq_true rfl) (by decide +kernel) dX1_judgeCornersOf_172 (by first | with_reducible assumption) rfl ?_
                refine v_aload_n dX1_judgeCornersOf_175 rfl 11 rfl ?_
                refine v_getf 1 (ci := 0) (C := RX1) (T := TX1) (N := 6) rfl iwX1_judgeCornersOf_X1 (Nat.le_of_ble_eq_true rfl) (by decide +kernel) dX1_judgeCornersOf_176 (by first | with_reducible assumption) rfl ?_
                refine v_getf 11 (ci := 6) (C := RX8) (T := TX8) (N := 14) rfl iwX1_judgeCornersOf_X8 (Nat.le_of_ble_eq_true rfl) (by decide +kernel) dX1_judgeCornersOf_179 (by first | with_reducible assumption) rfl ?_
                refine v_iload dX1_judgeCornersOf_182 6 rfl ?_
                refine v_ialdS (v := iN ((T (S.getD i ([], 0)) f).getD x (0, 0, 0)).1) dX1_judgeCornersOf_184 (by first | with_reducible assumption) (vp_in_nI (by omega) (by omega)) (by rw [nI_clamp (by omega)]; exact m1) ?_
                refine v_iload dX1_judgeCornersOf_185 4 rfl ?_
                refine v_iload dX1_judgeCornersOf_187 3 rfl ?_
                refine v_mmin (by decide +kernel) (by decide +kernel) (by decide +kernel) (by decide +kernel) dX1_judgeCornersOf_189 (Nat.le_of_ble_eq_true rfl) (Nat.le_of_ble_eq_true rfl) (Nat.le_of_ble_eq_true rfl) (Nat.le_of_ble_eq_true rfl) ?_
                rw [gmI_min (by omega) (by omega)]
                refine v_aload_n dX1_judgeCornersOf_192 rfl 11 rfl ?_
                refine v_getf 1 (ci := 0) (C := RX1) (T := TX1) (N := 6) rfl iwX1_judgeCornersOf_X1 (Nat.le_of_ble_eq_true rfl) (by decide +kernel) dX1_judgeCornersOf_193 (by first | with_reducible assumption) rfl ?_
                refine v_getf 11 (ci := 6) (C := RX8) (T := TX8) (N := 14) rfl iwX1_judgeCornersOf_X8 (Nat.le_of_ble_eq_true rfl) (by decide +kernel) dX1_judgeCornersOf_196 (by first | with_reducible assumption) rfl ?_
                refine v_iload dX1_judgeCornersOf_199 5 rfl ?_
                refine v_ialdS (v := iN ((T (S.getD j ([], 0)) g).getD y (0, 0, 0)).1) dX1_judgeCornersOf_201 (by first | with_reducible assumption) (vp_in_nI (by omega) (by omega)) (by rw [nI_clamp (by omega)]; exact m4) ?_
                refine v_iload dX1_judgeCornersOf_202 4 rfl ?_
                refine v_iload dX1_judgeCornersOf_204 3 rfl ?_
                refine v_mmax (by decide +kernel) (by decide +kernel) (by decide +kernel) (by decide +kernel) dX1_judgeCornersOf_206 (Nat.le_of_ble_eq_true rfl) (Nat.le_of_ble_eq_true rfl) (Nat.le_of_ble_eq_true rfl) (Nat.le_of_ble_eq_true rfl) ?_
                rw [gmI_max (by omega) (by omega)]
                refine v_aload_n dX1_judgeCornersOf_209 rfl 11 rfl ?_
                refine v_getf 1 (ci := 0) (C := RX1) (T := TX1) (N := 6) rfl iwX1_judgeCornersOf_X1 (Nat.le_of_ble_eq_true rfl) (by decide +kernel) dX1_judgeCornersOf_210 (by first | with_reducible assumption) rfl ?_
                refine v_getf 3 (ci := 6) (C := RX8) (T := TX8) (N := 14) rfl iwX1_judgeCornersOf_X8 (Nat.le_of_ble_eq_true rfl) (by decide +kernel) dX1_judgeCornersOf_213 (by first | with_reducible assumption) rfl ?_
                refine v_iload_n dX1_judgeCornersOf_216 rfl 10 rfl ?_
                refine v_ialdS (v := nI (S.getD i ([], 0)).2) dX1_judgeCornersOf_217 (by first | with_reducible assumption) (vp_in_nI (by omega) (by omega)) (by rw [nI_clamp (by omega)]; exact z3 i hi) ?_
                refine v_aload_n dX1_judgeCornersOf_218 rfl 11 rfl ?_
                refine v_getf 1 (ci := 0) (C := RX1) (T := TX1) (N := 6) rfl iwX1_judgeCornersOf_X1 (Nat.le_of_ble_eq_true rfl) (by decide +kernel) dX1_judgeCornersOf_219 (by first | with_reducible assumption) rfl ?_
                refine v_getf 3 (ci := 6) (C := RX8) (T := TX8) (N := 14) rfl iwX1_judgeCornersOf_X8 (Nat.le_of_ble_eq_true rfl) (by decide +kernel) dX1_judgeCornersOf_222 (by first | with_reducible assumption) rfl ?_
                refine v_iload_n dX1_judgeCornersOf_225 rfl 8 rfl ?_
                refine v_ialdS (v := nI (S.getD j ([], 0)).2) dX1_judgeCornersOf_226 (by first | with_reducible assumption) (vp_in_nI (by omega) (by omega)) (by rw [nI_clamp (by omega)]; exact z3 j hj) ?_
                refine v_lload dX1_judgeCornersOf_227 0 rfl ?_
                refine v_callVq (M' := mX10_add) (n := 7) (As := [_, _, _, _, _, _, _]) (ci := 8) (r := (RX10, TX10, 7)) gX1_judgeCornersOf_X10_add rfl (by decide +kernel) ⟨(Nat.le_of_ble_eq_true rfl), (Nat.le_of_ble_eq_true rfl)⟩ rfl rfl dX1_judgeCornersOf_229 rfl ⟨(Nat.le_of_ble_eq_true rfl), (Nat.le_of_ble_eq_true rfl)⟩ (Nat.le_of_ble_eq_true rfl) (by first | with_reducible assumption) rfl (c_addN G h _ t hmI _ H ((T (S.getD i ([], 0)) f).getD x (0, 0, 0)).1 (min ((T (S.getD i ([], 0)) f).getD x (0, 0, 0)).2.1 ((T (S.getD j ([], 0)) g).getD y (0, 0, 0)).2.1) ((T (S.getD j ([], 0)) g).getD y (0, 0, 0)).1 (max ((T (S.getD i ([], 0)) f).getD x (0, 0, 0)).2.1 ((T (S.getD j ([], 0)) g).getD y (0, 0, 0)).2.1) ((S.getD i ([], 0)).2 : Int) ((S.getD j ([], 0)).2 : Int) _ _ (show bd _ from by unfold bd; omega) (show bd _ from by unfold bd; omega) (show bd _ from by unfold bd; omega) (show bd _ from by unfold bd; omega) (show bd ((S.getD i ([], 0)).2 : Int) from by have := (zE i hi).1; unfold bd; omega) (show bd ((S.getD j ([], 0)).2 : Int) from by have := (zE j hj).1; unfold bd; omega) hbm rfl rfl rfl) (fun v h2 z2 hq9 => ?_)
                obtain ⟨rfl, rfl, H1, fr1⟩ := hq9
                refine v_iinc (j := 5) (L' := [(6, _), (13, _), (11, _), (9, _), (8, _), (7, _), (5, _), (4, _), (3, _), (2, _), (1, _), (0, _)]) (v := nI (st_ T S j g + (y + 1))) dX1_judgeCornersOf_232 rfl (nI_1 _) (Nat.le_of_ble_eq_true rfl) rfl ?_
                refine v_goto (tgt := 37) dX1_judgeCornersOf_235 (by decide) ?_
                refine v_sub (L' := [(6, _), (5, _), (4, _), (3, _), (2, _), (1, _), (0, _)]) [0, 6, 7, 8, 9, 10, 11] rfl ?_
                first
                  | (have c9 := H1
                     have c7 := Int64.not_le.mp c_138
                     have c6 := Int64.not_le.mp c_145
                     have c5 := Int64.not_le.mp c_168
                     rw [Int64.lt_iff_toInt_lt, jN_to (by omega) (by omega)] at c7 c6 c5
                     rw [jN_to (by omega) (by omega)] at c5
                     refine ih (y + 1) _ (by omega) (fun a9 p9 => (fr1 a9 p9).trans (fr a9 p9)) ?_
                     rw [flT_s hy, ← List.append_assoc, hup, show coR false x3.toInt ((S.getD i ([], 0)).2 : Int) ((S.getD j ([], 0)).2 : Int) hmI ((T (S.getD i ([], 0)) f).getD x (0, 0, 0)) ((T (S.getD j ([], 0)) g).getD y (0, 0, 0)) = [_] from if_pos ⟨c7, c6, c5⟩]
                     rw [hup] at c9
                     exact c9)
                  | (refine ih (y + 1) _ (by omega) fr ?_
                     rw [flT_s hy, hup, show coR false x3.toInt ((S.getD i ([], 0)).2 : Int) ((S.getD j ([], 0)).2 : Int) hmI ((T (S.getD i ([], 0)) f).getD x (0, 0, 0)) ((T (S.getD j ([], 0)) g).getD y (0, 0, 0)) = [] from if_neg (fun r9 => (by
                       first
                         | (have c5 := c_168
                            rw [Int64.le_iff_toInt_le, jN_to (by omega) (by omega), jN_to (by omega) (by omega)] at c5
                            exact absurd r9.2.2 (Int.not_lt.mpr c5))
                         | (have c6 := c_145
                            rw [Int64.le_iff_toInt_le, jN_to (by omega) (by omega)] at c6
                            exact absurd r9.2.1 (Int.not_lt.mpr c6))
                         | (have c7 := c_138
                            rw [Int64.le_iff_toInt_le, jN_to (by omega) (by omega)] at c7
                            exact absurd r9.1 (Int.not_lt.mpr c7)))), List.append_nil]
                     rw [hup] at H
                     exact H)
        · exact absurd c_101 (nI_ne0 (by omega) (by omega))

set_option maxHeartbeats 4000000 in
set_option maxRecDepth 100000 in
theorem l_coO (G : sv_G) (Qr : Option Value → sv_h → Nat → Prop) (hb : sv_h) (z b : Nat) (k : Int32) (nc np pl : Nat) (R : Nat → Bool) (hm pa sz : Nat → Nat) (ly vo ar : Nat → Int32) (X Y : Nat → Nat → Int) (fc : Nat → Nat → Nat) (oc : Nat → Nat → Option Nat) (mp : Nat → mvT) (w3 : Bool) (T : List Nat × Nat → Nat → List (Int × Int × Int)) (S : List (List Nat × Nat)) (q t : Nat) (n0 : Int64) (kd : Nat) (l1 l2 x3 x4 x5 x6 : Int32) (K : ck_ G w3 b k nc np pl R hm pa sz ly vo ar X Y fc oc mp T S q t n0 kd l1 l2 x3 x4 x5 x6 hb) (hmI : Int) (hbm : bd hmI) (i : Nat) (hi : i < S.length) (f : Nat) (hf : f < 4) (j : Nat) (hj : j < S.length) (g : Nat) (hg : g < 4) (E0 : List (List Int64)) (hk : ∀ h, (∀ a, ¬ (t ≤ a ∧ a < t + 4) → h a = hb a) → tE G h t (iN hmI) (E0 ++ (T (S.getD i ([], 0)) f).flatMap (fun s9 => (T (S.getD j ([], 0)) g).flatMap (fun t9 => coR (decide (f = 0)) x3.toInt ((S.getD i ([], 0)).2 : Int) ((S.getD j ([], 0)).2 : Int) hmI s9 t9))) → Qr none h z) : ∀ (e x : Nat) (h : sv_h), x + e = (T (S.getD i ([], 0)) f).length → (∀ a, ¬ (t ≤ a ∧ a < t + 4) → h a = hb a) → tE G h t (iN hmI) (E0 ++ flT (fun s9 => (T (S.getD j ([], 0)) g).flatMap (fun t9 => coR (decide (f = 0)) x3.toInt ((S.getD i ([], 0)).2 : Int) ((S.getD j ([], 0)).2 : Int) hmI s9 t9)) (T (S.getD i ([], 0)) f) x) → V G mX1_judgeCornersOf (sv_MQ G mX1_judgeCornersOf Qr) 11 [(5, .int (nI (st_ T S i f + x))), (4, .int (nI g)), (3, .int (nI j)), (2, .int (nI f)), (1, .int (nI i)), (0, .ref (b + 32))] [] h z 0 0 := by
  intro e
  induction e with
  | zero =>
    intro x h hxe fr H
    obtain ⟨Z, ⟨⟨fb, fcx, fcy, k1, k2, k3, k4⟩, ⟨fs9, fa, fr9, ft, k5, k6, k7, k8, k9, kA, kB⟩, ⟨fsp, kC⟩, _⟩, kD, kE, kF, kG, kH, kI⟩ := id K
    obtain ⟨z0, z1, ⟨fs, z2, z3⟩, ⟨fb_, z4, z5⟩, ⟨fl, z6, z7⟩, z8, z9, ⟨fq, zA, zB⟩, zC, zD, zE, zF⟩ := id Z
    have w1 := (fr (b + 35) (by omega)).trans z1
    have w2 : ab_I G h (b + 37) 100 fs := (fr _ (by omega)).trans z2
    have w4 : ab_I G h (b + 38) 100 fb_ := (fr _ (by omega)).trans z4
    have w6 : ab_Q G h (b + 39) 3 100 fl := (fr _ (by omega)).trans z6
    have w9 := (fr (b + 1) (by omega)).trans z9
    have wA : ab_Q G h (b + 2) 4 64 fq := (fr _ (by omega)).trans zA
    have wB : ab_I G h (b + 40) 400 fb := (fr _ (by omega)).trans k1
    have wC : ab_I G h (b + 44) 401 fs9 := (fr _ (by omega)).trans k5
    have wD : ab_I G h (b + 45) 1600 fa := (fr _ (by omega)).trans k6
    have wE : ab_I G h (b + 46) 1600 fr9 := (fr _ (by omega)).trans k7
    have wF : ab_I G h (b + 47) 1600 ft := (fr _ (by omega)).trans k8
    have wG := (fr (b + 32) (by omega)).trans kD
    have wH := (fr q (by omega)).trans kE
    obtain ⟨n1, n2⟩ := kI i hi f hf
    obtain ⟨n3, n4⟩ := kI j hj g hg
    rw [st_s] at n2 n4
    refine v_iload dX1_judgeCornersOf_11 0 rfl ?_
    refine v_aload_n dX1_judgeCornersOf_13 rfl 5 rfl ?_
    refine v_getf 1 (ci := 0) (C := RX1) (T := TX1) (N := 6) rfl iwX1_judgeCornersOf_X1 (Nat.le_of_ble_eq_true rfl) (by decide +kernel) dX1_judgeCornersOf_14 (by first | with_reducible assumption) rfl ?_
    refine v_iload_n dX1_judgeCornersOf_17 rfl 4 rfl ?_
    refine v_iload_n dX1_judgeCornersOf_18 rfl 3 rfl ?_
    refine v_callVq (M' := mX8_end) (n := 2) (As := [_, _]) (ci := 6) (r := (RX8, TX8, 14)) gX1_judgeCornersOf_X8_end rfl (by decide +kernel) ⟨(Nat.le_of_ble_eq_true rfl), (Nat.le_of_ble_eq_true rfl)⟩ rfl rfl dX1_judgeCornersOf_19 rfl ⟨(Nat.le_of_ble_eq_true rfl), (Nat.le_of_ble_eq_true rfl)⟩ (Nat.le_of_ble_eq_true rfl) (by first | with_reducible assumption) rfl (c_end G hb _ b k nc np pl R hm pa sz ly vo ar X Y fc oc mp w3 T S q t n0 kd l1 l2 x3 x4 x5 x6 K h fr i hi f hf) (fun v h1 z1 hq => v_pq hq ?_)
    refine v_icmp_ge (tgt := 244) dX1_judgeCornersOf_22 (by decide) (fun c_22 => ?_) (fun c_22 => ?_)
    · exact v_ret rfl dX1_judgeCornersOf_244 (Nat.le_of_ble_eq_true rfl) (Nat.le_of_ble_eq_true rfl) (by
                have e9 : x = (T (S.getD i ([], 0)) f).length := by omega
                rw [e9, flT_all] at H
                exact hk h fr H)
    · exact absurd (nI_le (show st_ T S i (f + 1) ≤ st_ T S i f + x by rw [st_s]; omega) (by omega)) c_22
  | succ e ih =>
    intro x h hxe fr H
    obtain ⟨Z, ⟨⟨fb, fcx, fcy, k1, k2, k3, k4⟩, ⟨fs9, fa, fr9, ft, k5, k6, k7, k8, k9, kA, kB⟩, ⟨fsp, kC⟩, _⟩, kD, kE, kF, kG, kH, kI⟩ := id K
    obtain ⟨z0, z1, ⟨fs, z2, z3⟩, ⟨fb_, z4, z5⟩, ⟨fl, z6, z7⟩, z8, z9, ⟨fq, zA, zB⟩, zC, zD, zE, zF⟩ := id Z
    have w1 := (fr (b + 35) (by omega)).trans z1
    have w2 : ab_I G h (b + 37) 100 fs := (fr _ (by omega)).trans z2
    have w4 : ab_I G h (b + 38) 100 fb_ := (fr _ (by omega)).trans z4
    have w6 : ab_Q G h (b + 39) 3 100 fl := (fr _ (by omega)).trans z6
    have w9 := (fr (b + 1) (by omega)).trans z9
    have wA : ab_Q G h (b + 2) 4 64 fq := (fr _ (by omega)).trans zA
    have wB : ab_I G h (b + 40) 400 fb := (fr _ (by omega)).trans k1
    have wC : ab_I G h (b + 44) 401 fs9 := (fr _ (by omega)).trans k5
    have wD : ab_I G h (b + 45) 1600 fa := (fr _ (by omega)).trans k6
    have wE : ab_I G h (b + 46) 1600 fr9 := (fr _ (by omega)).trans k7
    have wF : ab_I G h (b + 47) 1600 ft := (fr _ (by omega)).trans k8
    have wG := (fr (b + 32) (by omega)).trans kD
    have wH := (fr q (by omega)).trans kE
    obtain ⟨n1, n2⟩ := kI i hi f hf
    obtain ⟨n3, n4⟩ := kI j hj g hg
    rw [st_s] at n2 n4
    refine v_iload dX1_judgeCornersOf_11 0 rfl ?_
    refine v_aload_n dX1_judgeCornersOf_13 rfl 5 rfl ?_
    refine v_getf 1 (ci := 0) (C := RX1) (T := TX1) (N := 6) rfl iwX1_judgeCornersOf_X1 (Nat.le_of_ble_eq_true rfl) (by decide +kernel) dX1_judgeCornersOf_14 (by first | with_reducible assumption) rfl ?_
    refine v_iload_n dX1_judgeCornersOf_17 rfl 4 rfl ?_
    refine v_iload_n dX1_judgeCornersOf_18 rfl 3 rfl ?_
    refine v_callVq (M' := mX8_end) (n := 2) (As := [_, _]) (ci := 6) (r := (RX8, TX8, 14)) gX1_judgeCornersOf_X8_end rfl (by decide +kernel) ⟨(Nat.le_of_ble_eq_true rfl), (Nat.le_of_ble_eq_true rfl)⟩ rfl rfl dX1_judgeCornersOf_19 rfl ⟨(Nat.le_of_ble_eq_true rfl), (Nat.le_of_ble_eq_true rfl)⟩ (Nat.le_of_ble_eq_true rfl) (by first | with_reducible assumption) rfl (c_end G hb _ b k nc np pl R hm pa sz ly vo ar X Y fc oc mp w3 T S q t n0 kd l1 l2 x3 x4 x5 x6 K h fr i hi f hf) (fun v h1 z1 hq => v_pq hq ?_)
    refine v_icmp_ge (tgt := 244) dX1_judgeCornersOf_22 (by decide) (fun c_22 => ?_) (fun c_22 => ?_)
    · exact absurd c_22 (nI_ge (show st_ T S i f + x < st_ T S i (f + 1) by rw [st_s]; omega) (by rw [st_s]; omega))
    · refine v_aload_n dX1_judgeCornersOf_25 rfl 5 rfl ?_
      refine v_getf 1 (ci := 0) (C := RX1) (T := TX1) (N := 6) rfl iwX1_judgeCornersOf_X1 (Nat.le_of_ble_eq_true rfl) (by decide +kernel) dX1_judgeCornersOf_26 (by first | with_reducible assumption) rfl ?_
      refine v_iload_n dX1_judgeCornersOf_29 rfl 2 rfl ?_
      refine v_iload dX1_judgeCornersOf_30 1 rfl ?_
      refine v_callVq (M' := mX8_begin) (n := 2) (As := [_, _]) (ci := 6) (r := (RX8, TX8, 14)) gX1_judgeCornersOf_X8_begin rfl (by decide +kernel) ⟨(Nat.le_of_ble_eq_true rfl), (Nat.le_of_ble_eq_true rfl)⟩ rfl rfl dX1_judgeCornersOf_32 rfl ⟨(Nat.le_of_ble_eq_true rfl), (Nat.le_of_ble_eq_true rfl)⟩ (Nat.le_of_ble_eq_true rfl) (by first | with_reducible assumption) rfl (c_begin G hb _ b k nc np pl R hm pa sz ly vo ar X Y fc oc mp w3 T S q t n0 kd l1 l2 x3 x4 x5 x6 K h fr j hj g hg) (fun v h1 z1 hq => v_pq hq ?_)
      refine v_istore (L' := [(6, _), (5, _), (4, _), (3, _), (2, _), (1, _), (0, _)]) dX1_judgeCornersOf_35 (Nat.le_of_ble_eq_true rfl) rfl ?_
      refine v_sub (L' := [(6, _), (5, _), (4, _), (3, _), (2, _), (1, _), (0, _)]) [0, 1, 2, 3, 4, 5, 6] rfl ?_
      refine l_coI G Qr hb _ b k nc np pl R hm pa sz ly vo ar X Y fc oc mp w3 T S q t n0 kd l1 l2 x3 x4 x5 x6 K hmI hbm i hi f hf j hj g hg x (by omega) (E0 ++ flT (fun s9 => (T (S.getD j ([], 0)) g).flatMap (fun t9 => coR (decide (f = 0)) x3.toInt ((S.getD i ([], 0)).2 : Int) ((S.getD j ([], 0)).2 : Int) hmI s9 t9)) (T (S.getD i ([], 0)) f) x) (fun h2 fr2 H2 => ?_) (T (S.getD j ([], 0)) g).length 0 h (by omega) fr (by rw [show flT (coR (decide (f = 0)) x3.toInt ((S.getD i ([], 0)).2 : Int) ((S.getD j ([], 0)).2 : Int) hmI ((T (S.getD i ([], 0)) f).getD x (0, 0, 0))) (T (S.getD j ([], 0)) g) 0 = [] from rfl, List.append_nil]; exact H)
      refine v_iinc (j := 0) (L' := [(5, _), (4, _), (3, _), (2, _), (1, _), (0, _)]) (v := nI (st_ T S i f + (x + 1))) dX1_judgeCornersOf_238 rfl (nI_1 _) (Nat.le_of_ble_eq_true rfl) rfl ?_
      refine v_goto (tgt := 11) dX1_judgeCornersOf_241 (by decide) ?_
      refine v_sub (L' := [(5, _), (4, _), (3, _), (2, _), (1, _), (0, _)]) [0, 1, 2, 3, 4, 5] rfl ?_
      refine ih (x + 1) h2 (by omega) fr2 ?_
      rw [flT_s (show x < (T (S.getD i ([], 0)) f).length by omega), ← List.append_assoc]
      exact H2

set_option maxHeartbeats 4000000 in
set_option maxRecDepth 100000 in
theorem c_jCornersOf (G : sv_G) (hb : sv_h) (z b : Nat) (k : Int32) (nc np pl : Nat) (R : Nat → Bool) (hm pa sz : Nat → Nat) (ly vo ar : Nat → Int32) (X Y : Nat → Nat → Int) (fc : Nat → Nat → Nat) (oc : Nat → Nat → Option Nat) (mp : Nat → mvT) (w3 : Bool) (T : List Nat × Nat → Nat → List (Int × Int × Int)) (S : List (List Nat × Nat)) (q t : Nat) (n0 : Int64) (kd : Nat) (l1 l2 x3 x4 x5 x6 : Int32) (K : ck_ G w3 b k nc np pl R hm pa sz ly vo ar X Y fc oc mp T S q t n0 kd l1 l2 x3 x4 x5 x6 hb) (hmI : Int) (hbm : bd hmI) (i : Nat) (hi : i < S.length) (f : Nat) (hf : f < 4) (j : Nat) (hj : j < S.length) (g : Nat) (hg : g < 4) (h : sv_h) (fr : ∀ a, ¬ (t ≤ a ∧ a < t + 4) → h a = hb a) (E0 : List (List Int64)) (H : tE G h t (iN hmI) E0) : CT G mX1_judgeCornersOf [.ref (b + 32), .int (nI i), .int (nI f), .int (nI j), .int (nI g)] h z (fun v h1 z1 => v = none ∧ z1 = z ∧ tE G h1 t (iN hmI) (E0 ++ (coL (decide (f = 0)) x3.toInt ((S.getD i ([], 0)).2 : Int) ((S.getD j ([], 0)).2 : Int) hmI (T (S.getD i ([], 0)) f) (T (S.getD j ([], 0)) g))) ∧ ∀ a, ¬ (t ≤ a ∧ a < t + 4) → h1 a = hb a) := by
  refine CT.of (by decide +kernel) rfl rfl (Nat.le_of_ble_eq_true rfl) ?_
  obtain ⟨Z, ⟨⟨fb, fcx, fcy, k1, k2, k3, k4⟩, ⟨fs9, fa, fr9, ft, k5, k6, k7, k8, k9, kA, kB⟩, ⟨fsp, kC⟩, _⟩, kD, kE, kF, kG, kH, kI⟩ := id K
  obtain ⟨z0, z1, ⟨fs, z2, z3⟩, ⟨fb_, z4, z5⟩, ⟨fl, z6, z7⟩, z8, z9, ⟨fq, zA, zB⟩, zC, zD, zE, zF⟩ := id Z
  have w1 := (fr (b + 35) (by omega)).trans z1
  have w2 : ab_I G h (b + 37) 100 fs := (fr _ (by omega)).trans z2
  have w4 : ab_I G h (b + 38) 100 fb_ := (fr _ (by omega)).trans z4
  have w6 : ab_Q G h (b + 39) 3 100 fl := (fr _ (by omega)).trans z6
  have w9 := (fr (b + 1) (by omega)).trans z9
  have wA : ab_Q G h (b + 2) 4 64 fq := (fr _ (by omega)).trans zA
  have wB : ab_I G h (b + 40) 400 fb := (fr _ (by omega)).trans k1
  have wC : ab_I G h (b + 44) 401 fs9 := (fr _ (by omega)).trans k5
  have wD : ab_I G h (b + 45) 1600 fa := (fr _ (by omega)).trans k6
  have wE : ab_I G h (b + 46) 1600 fr9 := (fr _ (by omega)).trans k7
  have wF : ab_I G h (b + 47) 1600 ft := (fr _ (by omega)).trans k8
  have wG := (fr (b + 32) (by omega)).trans kD
  have wH := (fr q (by omega)).trans kE
  refine v_aload_n dX1_judgeCornersOf_0 rfl 0 rfl ?_
  refine v_getf 1 (ci := 0) (C := RX1) (T := TX1) (N := 6) rfl iwX1_judgeCornersOf_X1 (Nat.le_of_ble_eq_true rfl) (by decide +kernel) dX1_judgeCornersOf_1 (by first | with_reducible assumption) rfl ?_
  refine v_iload_n dX1_judgeCornersOf_4 rfl 1 rfl ?_
  refine v_iload_n dX1_judgeCornersOf_5 rfl 2 rfl ?_
  refine v_callVq (M' := mX8_begin) (n := 2) (As := [_, _]) (ci := 6) (r := (RX8, TX8, 14)) gX1_judgeCornersOf_X8_begin rfl (by decide +kernel) ⟨(Nat.le_of_ble_eq_true rfl), (Nat.le_of_ble_eq_true rfl)⟩ rfl rfl dX1_judgeCornersOf_6 rfl ⟨(Nat.le_of_ble_eq_true rfl), (Nat.le_of_ble_eq_true rfl)⟩ (Nat.le_of_ble_eq_true rfl) (by first | with_reducible assumption) rfl (c_begin G hb _ b k nc np pl R hm pa sz ly vo ar X Y fc oc mp w3 T S q t n0 kd l1 l2 x3 x4 x5 x6 K h fr i hi f hf) (fun v h1 z1 hq => v_pq hq ?_)
  refine v_istore (L' := [(5, _), (0, _), (1, _), (2, _), (3, _), (4, _)]) dX1_judgeCornersOf_9 (Nat.le_of_ble_eq_true rfl) rfl ?_
  refine v_sub (L' := [(5, _), (4, _), (3, _), (2, _), (1, _), (0, _)]) [0, 5, 4, 3, 2, 1] rfl ?_
  exact l_coO G _ hb _ b k nc np pl R hm pa sz ly vo ar X Y fc oc mp w3 T S q t n0 kd l1 l2 x3 x4 x5 x6 K hmI hbm i hi f hf j hj g hg E0 (fun h2 fr2 H2 => ⟨rfl, rfl, H2, fr2⟩) (T (S.getD i ([], 0)) f).length 0 h (by omega) fr (by rw [show flT (fun s9 => (T (S.getD j ([], 0)) g).flatMap (fun t9 => coR (decide (f = 0)) x3.toInt ((S.getD i ([], 0)).2 : Int) ((S.getD j ([], 0)).2 : Int) hmI s9 t9)) (T (S.getD i ([], 0)) f) 0 = [] from rfl, List.append_nil]; exact H)

def jCo (x3 : Int32) (hmI : Int) (T : List Nat × Nat → Nat → List (Int × Int × Int)) (q r : List Nat × Nat) : List (List Int64) := coL true x3.toInt (q.2 : Int) (r.2 : Int) hmI (T q 0) (T r 2) ++ coL false x3.toInt (q.2 : Int) (r.2 : Int) hmI (T q 3) (T r 1)
theorem c_jCornersN (G : sv_G) (hb : sv_h) (z b : Nat) (k : Int32) (nc np pl : Nat) (R : Nat → Bool) (hm pa sz : Nat → Nat) (ly vo ar : Nat → Int32) (X Y : Nat → Nat → Int) (fc : Nat → Nat → Nat) (oc : Nat → Nat → Option Nat) (mp : Nat → mvT) (w3 : Bool) (T : List Nat × Nat → Nat → List (Int × Int × Int)) (S : List (List Nat × Nat)) (q t : Nat) (n0 : Int64) (kd : Nat) (l1 l2 x3 x4 x5 x6 : Int32) (K : ck_ G w3 b k nc np pl R hm pa sz ly vo ar X Y fc oc mp T S q t n0 kd l1 l2 x3 x4 x5 x6 hb) (hmI : Int) (hbm : bd hmI) (i : Nat) (hi : i < S.length) (f : Nat) (hf : f < 4) (j : Nat) (hj : j < S.length) (g : Nat) (hg : g < 4) (h : sv_h) (fr : ∀ a, ¬ (t ≤ a ∧ a < t + 4) → h a = hb a) (E0 : List (List Int64)) (H : tE G h t (iN hmI) E0) {fv gv : Int32} (e1 : fv = nI f) (e2 : gv = nI g) : CT G mX1_judgeCornersOf [.ref (b + 32), .int (nI i), .int fv, .int (nI j), .int gv] h z (fun v h1 z1 => v = none ∧ z1 = z ∧ tE G h1 t (iN hmI) (E0 ++ (coL (decide (f = 0)) x3.toInt ((S.getD i ([], 0)).2 : Int) ((S.getD j ([], 0)).2 : Int) hmI (T (S.getD i ([], 0)) f) (T (S.getD j ([], 0)) g))) ∧ ∀ a, ¬ (t ≤ a ∧ a < t + 4) → h1 a = hb a) := by
  subst e1 e2
  exact c_jCornersOf G hb z b k nc np pl R hm pa sz ly vo ar X Y fc oc mp w3 T S q t n0 kd l1 l2 x3 x4 x5 x6 K hmI hbm i hi f hf j hj g hg h fr E0 H
set_option maxHeartbeats 4000000 in
set_option maxRecDepth 100000 in
theorem c_jCorners (G : sv_G) (hb : sv_h) (z b : Nat) (k : Int32) (nc np pl : Nat) (R : Nat → Bool) (hm pa sz : Nat → Nat) (ly vo ar : Nat → Int32) (X Y : Nat → Nat → Int) (fc : Nat → Nat → Nat) (oc : Nat → Nat → Option Nat) (mp : Nat → mvT) (w3 : Bool) (T : List Nat × Nat → Nat → List (Int × Int × Int)) (S : List (List Nat × Nat)) (q t : Nat) (n0 : Int64) (kd : Nat) (l1 l2 x3 x4 x5 x6 : Int32) (K : ck_ G w3 b k nc np pl R hm pa sz ly vo ar X Y fc oc mp T S q t n0 kd l1 l2 x3 x4 x5 x6 hb) (hmI : Int) (hbm : bd hmI) (i : Nat) (hi : i < S.length) (j : Nat) (hj : j < S.length) (h : sv_h) (fr : ∀ a, ¬ (t ≤ a ∧ a < t + 4) → h a = hb a) (E0 : List (List Int64)) (H : tE G h t (iN hmI) E0) : CT G mX1_judgeCorners [.ref (b + 32), .int (nI i), .int (nI j)] h z (fun v h1 z1 => v = none ∧ z1 = z ∧ tE G h1 t (iN hmI) (E0 ++ (jCo x3 hmI T (S.getD i ([], 0)) (S.getD j ([], 0)))) ∧ ∀ a, ¬ (t ≤ a ∧ a < t + 4) → h1 a = hb a) := by
  refine CT.of (by decide +kernel) rfl rfl (Nat.le_of_ble_eq_true rfl) ?_
  obtain ⟨Z, ⟨⟨fb, fcx, fcy, k1, k2, k3, k4⟩, ⟨fs9, fa, fr9, ft, k5, k6, k7, k8, k9, kA, kB⟩, ⟨fsp, kC⟩, _⟩, kD, kE, kF, kG, kH, kI⟩ := id K
  obtain ⟨z0, z1, ⟨fs, z2, z3⟩, ⟨fb_, z4, z5⟩, ⟨fl, z6, z7⟩, z8, z9, ⟨fq, zA, zB⟩, zC, zD, zE, zF⟩ := id Z
  have w1 := (fr (b + 35) (by omega)).trans z1
  have w2 : ab_I G h (b + 37) 100 fs := (fr _ (by omega)).trans z2
  have w4 : ab_I G h (b + 38) 100 fb_ := (fr _ (by omega)).trans z4
  have w6 : ab_Q G h (b + 39) 3 100 fl := (fr _ (by omega)).trans z6
  have w9 := (fr (b + 1) (by omega)).trans z9
  have wA : ab_Q G h (b + 2) 4 64 fq := (fr _ (by omega)).trans zA
  have wB : ab_I G h (b + 40) 400 fb := (fr _ (by omega)).trans k1
  have wC : ab_I G h (b + 44) 401 fs9 := (fr _ (by omega)).trans k5
  have wD : ab_I G h (b + 45) 1600 fa := (fr _ (by omega)).trans k6
  have wE : ab_I G h (b + 46) 1600 fr9 := (fr _ (by omega)).trans k7
  have wF : ab_I G h (b + 47) 1600 ft := (fr _ (by omega)).trans k8
  have wG := (fr (b + 32) (by omega)).trans kD
  have wH := (fr q (by omega)).trans kE
  refine v_aload_n dX1_judgeCorners_0 rfl 0 rfl ?_
  refine v_iload_n dX1_judgeCorners_1 rfl 1 rfl ?_
  refine v_iconst (v := 0) dX1_judgeCorners_2 (by decide) ?_
  refine v_iload_n dX1_judgeCorners_3 rfl 2 rfl ?_
  refine v_iconst (v := 2) dX1_judgeCorners_4 (by decide) ?_
  refine v_callVq (M' := mX1_judgeCornersOf) (n := 4) (As := [_, _, _, _]) (ci := 0) (r := (RX1, TX1, 6)) gX1_judgeCorners_X1_judgeCornersOf rfl (by decide +kernel) ⟨(Nat.le_of_ble_eq_true rfl), (Nat.le_of_ble_eq_true rfl)⟩ rfl rfl dX1_judgeCorners_5 rfl ⟨(Nat.le_of_ble_eq_true rfl), (Nat.le_of_ble_eq_true rfl)⟩ (Nat.le_of_ble_eq_true rfl) (by first | with_reducible assumption) rfl (c_jCornersN G hb _ b k nc np pl R hm pa sz ly vo ar X Y fc oc mp w3 T S q t n0 kd l1 l2 x3 x4 x5 x6 K hmI hbm i hi 0 (by decide) j hj 2 (by decide) _ fr _ H (by decide) (by decide)) (fun v h1 y1 hq9 => ?_)
  obtain ⟨rfl, rfl, H1, fr1⟩ := hq9
  have wG1 := (fr1 (b + 32) (by omega)).trans kD
  refine v_aload_n dX1_judgeCorners_8 rfl 0 rfl ?_
  refine v_iload_n dX1_judgeCorners_9 rfl 1 rfl ?_
  refine v_iconst (v := 3) dX1_judgeCorners_10 (by decide) ?_
  refine v_iload_n dX1_judgeCorners_11 rfl 2 rfl ?_
  refine v_iconst (v := 1) dX1_judgeCorners_12 (by decide) ?_
  refine v_callVq (M' := mX1_judgeCornersOf) (n := 4) (As := [_, _, _, _]) (ci := 0) (r := (RX1, TX1, 6)) gX1_judgeCorners_X1_judgeCornersOf rfl (by decide +kernel) ⟨(Nat.le_of_ble_eq_true rfl), (Nat.le_of_ble_eq_true rfl)⟩ rfl rfl dX1_judgeCorners_13 rfl ⟨(Nat.le_of_ble_eq_true rfl), (Nat.le_of_ble_eq_true rfl)⟩ (Nat.le_of_ble_eq_true rfl) (by first | with_reducible assumption) rfl (c_jCornersN G hb _ b k nc np pl R hm pa sz ly vo ar X Y fc oc mp w3 T S q t n0 kd l1 l2 x3 x4 x5 x6 K hmI hbm i hi 3 (by decide) j hj 1 (by decide) _ fr1 _ H1 (by decide) (by decide)) (fun v h2 y2 hq9 => ?_)
  obtain ⟨rfl, rfl, H2, fr2⟩ := hq9
  have wG2 := (fr2 (b + 32) (by omega)).trans kD
  exact v_ret rfl dX1_judgeCorners_16 (Nat.le_of_ble_eq_true rfl) (Nat.le_of_ble_eq_true rfl) ⟨rfl, rfl, by unfold jCo; rw [← List.append_assoc]; exact H2, fr2⟩

