theorem iwX13_isLaidOut_X13 : ∀ w ∈ wsX130, w ∈ wsX13_isLaidOut := by decide +kernel
set_option maxRecDepth 20000 in
theorem ggX13_isLaidOut_X13_layOut : GoodIn wsX13_isLaidOut wsX13_layOut := goodIn_r _ [13, 2, 14, 15, 3, 16, 17, 18, 19, 20, 12, 21, 22, 23, 24, 25, 26, 27, 28, 29, 30, 46, 47, 48, 49, 50, 51, 52, 53, 54, 55, 56, 57, 58, 59, 60, 61, 62, 63, 64, 65, 66, 67, 68, 69, 70, 71, 72, 73, 74, 75, 76, 77, 78, 79, 80, 81, 82, 83, 84, 85, 86, 87, 88, 89, 90, 91, 92, 93, 94, 95, 96, 97, 98, 99, 100, 101, 102, 103, 104, 105, 106, 107, 108, 109, 110, 111, 112, 113, 114, 115, 116] (by decide +kernel) (by decide +kernel)
set_option maxRecDepth 20000 in
theorem gX13_isLaidOut_X13_layOut : GoodIn wsX13_isLaidOut (wsV RX13 267 RX13 yX13_layOut wsX13_layOut) := goodIn_app (goodIn_of _ (by decide +kernel)) ggX13_isLaidOut_X13_layOut
set_option maxRecDepth 20000 in
theorem ggX13_isLaidOut_X13_mark : GoodIn wsX13_isLaidOut wsX13_mark := goodIn_r _ [34, 35, 36, 2, 37, 46, 47, 48, 49, 50, 51, 52, 53, 54, 55, 56, 57, 58, 59, 60, 61, 62, 63, 64, 65, 66, 67, 68, 69, 70, 71, 72, 73, 74, 75, 76, 77, 78, 79, 80, 81, 82, 83, 84, 85, 86, 87, 88, 89, 90, 91, 92, 93, 94, 95, 96, 97, 98, 99, 100, 101, 102, 103, 104, 105, 106, 107, 108, 109, 110, 111, 112, 113, 114, 115, 116] (by decide +kernel) (by decide +kernel)
set_option maxRecDepth 20000 in
theorem gX13_isLaidOut_X13_mark : GoodIn wsX13_isLaidOut (wsV RX13 365 RX13 yX13_mark wsX13_mark) := goodIn_app (goodIn_of _ (by decide +kernel)) ggX13_isLaidOut_X13_mark
set_option maxRecDepth 20000 in
theorem ggX13_isLaidOut_X13_cellAt : GoodIn wsX13_isLaidOut wsX13_cellAt := goodIn_r _ [41, 1, 7, 8, 46, 47, 48, 49, 50, 51, 52, 53, 54, 55, 56, 57, 58, 59, 60, 61, 62, 63, 64, 65, 66, 67, 68, 69, 70, 71, 72, 73, 74, 75, 76, 77, 78, 79, 80, 81, 82, 83, 84, 85, 86, 87, 88, 89, 90, 91, 92, 93, 94, 95, 96, 97, 98, 99, 100, 101, 102, 103, 104, 105, 106, 107, 108, 109, 110, 111, 112, 113, 114, 115, 116] (by decide +kernel) (by decide +kernel)
set_option maxRecDepth 20000 in
theorem gX13_isLaidOut_X13_cellAt : GoodIn wsX13_isLaidOut (wsV RX13 214 RX13 yX13_cellAt wsX13_cellAt) := goodIn_app (goodIn_of _ (by decide +kernel)) ggX13_isLaidOut_X13_cellAt
set_option maxRecDepth 20000 in
theorem ggX13_isLaidOut_X13_isThere_p0 : GoodIn wsX13_isLaidOut [.code yX13_isThere cX13_isThere 3 (some .boolean)] := goodIn_r _ [45] (by decide +kernel) (by decide +kernel)
set_option maxRecDepth 20000 in
theorem ggX13_isLaidOut_X13_isThere_p1 : GoodIn wsX13_isLaidOut wsX13_isThere_r1 := goodIn_r _ [17, 1, 3, 16, 8, 9, 10, 11, 12, 13, 2, 14, 15, 18, 19, 20, 21, 22, 23, 24, 25, 26, 27, 28] (by decide +kernel) (by decide +kernel)
set_option maxRecDepth 20000 in
theorem ggX13_isLaidOut_X13_isThere_p2 : GoodIn wsX13_isLaidOut wsX13_isThere_r2 := goodIn_r _ [29, 30, 31, 32, 33, 34, 35, 36, 37] (by decide +kernel) (by decide +kernel)
theorem ggX13_isLaidOut_X13_isThere_p3 : GoodIn wsX13_isLaidOut wsX130 := goodIn_sub iwX13_isLaidOut_X13 (by decide +kernel)
theorem ggX13_isLaidOut_X13_isThere : GoodIn wsX13_isLaidOut wsX13_isThere := goodIn_cn ggX13_isLaidOut_X13_isThere_p0 (goodIn_app (goodIn_app ggX13_isLaidOut_X13_isThere_p1 ggX13_isLaidOut_X13_isThere_p2) ggX13_isLaidOut_X13_isThere_p3)
set_option maxRecDepth 20000 in
theorem gX13_isLaidOut_X13_isThere : GoodIn wsX13_isLaidOut (wsV RX13 368 RX13 yX13_isThere wsX13_isThere) := goodIn_app (goodIn_of _ (by decide +kernel)) ggX13_isLaidOut_X13_isThere
theorem dX13_isLaidOut_0 : decode cX13_isLaidOut 0 = .ok (.iconst 1, 1) := by decide +kernel
theorem dX13_isLaidOut_1 : decode cX13_isLaidOut 1 = .ok (.istore_n 3, 1) := by decide +kernel
theorem dX13_isLaidOut_2 : decode cX13_isLaidOut 2 = .ok (.aload_n 0, 1) := by decide +kernel
theorem dX13_isLaidOut_3 : decode cX13_isLaidOut 3 = .ok (.iconst 0, 1) := by decide +kernel
theorem dX13_isLaidOut_4 : decode cX13_isLaidOut 4 = .ok (.putfield 205, 3) := by decide +kernel
theorem dX13_isLaidOut_7 : decode cX13_isLaidOut 7 = .ok (.iconst 0, 1) := by decide +kernel
theorem dX13_isLaidOut_8 : decode cX13_isLaidOut 8 = .ok (.istore 4, 2) := by decide +kernel
theorem dX13_isLaidOut_10 : decode cX13_isLaidOut 10 = .ok (.iload_n 1, 1) := by decide +kernel
theorem dX13_isLaidOut_11 : decode cX13_isLaidOut 11 = .ok (.i2l, 1) := by decide +kernel
theorem dX13_isLaidOut_12 : decode cX13_isLaidOut 12 = .ok (.aload_n 0, 1) := by decide +kernel
theorem dX13_isLaidOut_13 : decode cX13_isLaidOut 13 = .ok (.getfield 72, 3) := by decide +kernel
theorem dX13_isLaidOut_16 : decode cX13_isLaidOut 16 = .ok (.iload_n 2, 1) := by decide +kernel
theorem dX13_isLaidOut_17 : decode cX13_isLaidOut 17 = .ok (.bipush 7, 2) := by decide +kernel
theorem dX13_isLaidOut_19 : decode cX13_isLaidOut 19 = .ok (.iadd, 1) := by decide +kernel
theorem dX13_isLaidOut_20 : decode cX13_isLaidOut 20 = .ok (.laload, 1) := by decide +kernel
theorem dX13_isLaidOut_21 : decode cX13_isLaidOut 21 = .ok (.lcmp, 1) := by decide +kernel
theorem dX13_isLaidOut_22 : decode cX13_isLaidOut 22 = .ok (.ifCond .ne 19, 3) := by decide +kernel
theorem dX13_isLaidOut_25 : decode cX13_isLaidOut 25 = .ok (.aload_n 0, 1) := by decide +kernel
theorem dX13_isLaidOut_26 : decode cX13_isLaidOut 26 = .ok (.iconst 0, 1) := by decide +kernel
theorem dX13_isLaidOut_27 : decode cX13_isLaidOut 27 = .ok (.putfield 270, 3) := by decide +kernel
theorem dX13_isLaidOut_30 : decode cX13_isLaidOut 30 = .ok (.aload_n 0, 1) := by decide +kernel
theorem dX13_isLaidOut_31 : decode cX13_isLaidOut 31 = .ok (.iload_n 2, 1) := by decide +kernel
theorem dX13_isLaidOut_32 : decode cX13_isLaidOut 32 = .ok (.invokevirtual 267, 3) := by decide +kernel
theorem dX13_isLaidOut_35 : decode cX13_isLaidOut 35 = .ok (.aload_n 0, 1) := by decide +kernel
theorem dX13_isLaidOut_36 : decode cX13_isLaidOut 36 = .ok (.iload_n 2, 1) := by decide +kernel
theorem dX13_isLaidOut_37 : decode cX13_isLaidOut 37 = .ok (.invokevirtual 365, 3) := by decide +kernel
theorem dX13_isLaidOut_40 : decode cX13_isLaidOut 40 = .ok (.istore_n 3, 1) := by decide +kernel
theorem dX13_isLaidOut_41 : decode cX13_isLaidOut 41 = .ok (.iload_n 3, 1) := by decide +kernel
theorem dX13_isLaidOut_42 : decode cX13_isLaidOut 42 = .ok (.ifCond .eq 190, 3) := by decide +kernel
theorem dX13_isLaidOut_45 : decode cX13_isLaidOut 45 = .ok (.aload_n 0, 1) := by decide +kernel
theorem dX13_isLaidOut_46 : decode cX13_isLaidOut 46 = .ok (.getfield 205, 3) := by decide +kernel
theorem dX13_isLaidOut_49 : decode cX13_isLaidOut 49 = .ok (.ifCond .gt 12, 3) := by decide +kernel
theorem dX13_isLaidOut_52 : decode cX13_isLaidOut 52 = .ok (.iload 4, 2) := by decide +kernel
theorem dX13_isLaidOut_54 : decode cX13_isLaidOut 54 = .ok (.aload_n 0, 1) := by decide +kernel
theorem dX13_isLaidOut_55 : decode cX13_isLaidOut 55 = .ok (.getfield 169, 3) := by decide +kernel
theorem dX13_isLaidOut_58 : decode cX13_isLaidOut 58 = .ok (.if_icmp .ge 174, 3) := by decide +kernel
theorem dX13_isLaidOut_61 : decode cX13_isLaidOut 61 = .ok (.aload_n 0, 1) := by decide +kernel
theorem dX13_isLaidOut_62 : decode cX13_isLaidOut 62 = .ok (.iload_n 1, 1) := by decide +kernel
theorem dX13_isLaidOut_63 : decode cX13_isLaidOut 63 = .ok (.invokevirtual 214, 3) := by decide +kernel
theorem dX13_isLaidOut_66 : decode cX13_isLaidOut 66 = .ok (.istore 5, 2) := by decide +kernel
theorem dX13_isLaidOut_68 : decode cX13_isLaidOut 68 = .ok (.iload 4, 2) := by decide +kernel
theorem dX13_isLaidOut_70 : decode cX13_isLaidOut 70 = .ok (.aload_n 0, 1) := by decide +kernel
theorem dX13_isLaidOut_71 : decode cX13_isLaidOut 71 = .ok (.getfield 169, 3) := by decide +kernel
theorem dX13_isLaidOut_74 : decode cX13_isLaidOut 74 = .ok (.if_icmp .ge 38, 3) := by decide +kernel
theorem dX13_isLaidOut_77 : decode cX13_isLaidOut 77 = .ok (.aload_n 0, 1) := by decide +kernel
theorem dX13_isLaidOut_78 : decode cX13_isLaidOut 78 = .ok (.getfield 29, 3) := by decide +kernel
theorem dX13_isLaidOut_81 : decode cX13_isLaidOut 81 = .ok (.iload 4, 2) := by decide +kernel
theorem dX13_isLaidOut_83 : decode cX13_isLaidOut 83 = .ok (.iaload, 1) := by decide +kernel
theorem dX13_isLaidOut_84 : decode cX13_isLaidOut 84 = .ok (.iload 5, 2) := by decide +kernel
theorem dX13_isLaidOut_86 : decode cX13_isLaidOut 86 = .ok (.if_icmp .ne 20, 3) := by decide +kernel
theorem dX13_isLaidOut_89 : decode cX13_isLaidOut 89 = .ok (.aload_n 0, 1) := by decide +kernel
theorem dX13_isLaidOut_90 : decode cX13_isLaidOut 90 = .ok (.getfield 98, 3) := by decide +kernel
theorem dX13_isLaidOut_93 : decode cX13_isLaidOut 93 = .ok (.aload_n 0, 1) := by decide +kernel
theorem dX13_isLaidOut_94 : decode cX13_isLaidOut 94 = .ok (.getfield 32, 3) := by decide +kernel
theorem dX13_isLaidOut_97 : decode cX13_isLaidOut 97 = .ok (.iload 4, 2) := by decide +kernel
theorem dX13_isLaidOut_99 : decode cX13_isLaidOut 99 = .ok (.iaload, 1) := by decide +kernel
theorem dX13_isLaidOut_100 : decode cX13_isLaidOut 100 = .ok (.laload, 1) := by decide +kernel
theorem dX13_isLaidOut_101 : decode cX13_isLaidOut 101 = .ok (.lconst 0, 1) := by decide +kernel
theorem dX13_isLaidOut_102 : decode cX13_isLaidOut 102 = .ok (.lcmp, 1) := by decide +kernel
theorem dX13_isLaidOut_103 : decode cX13_isLaidOut 103 = .ok (.ifCond .ne 9, 3) := by decide +kernel
theorem dX13_isLaidOut_106 : decode cX13_isLaidOut 106 = .ok (.iinc 4 1, 3) := by decide +kernel
theorem dX13_isLaidOut_109 : decode cX13_isLaidOut 109 = .ok (.goto (-41), 3) := by decide +kernel
theorem dX13_isLaidOut_112 : decode cX13_isLaidOut 112 = .ok (.iload 4, 2) := by decide +kernel
theorem dX13_isLaidOut_114 : decode cX13_isLaidOut 114 = .ok (.aload_n 0, 1) := by decide +kernel
theorem dX13_isLaidOut_115 : decode cX13_isLaidOut 115 = .ok (.getfield 169, 3) := by decide +kernel
theorem dX13_isLaidOut_118 : decode cX13_isLaidOut 118 = .ok (.if_icmp .ge 55, 3) := by decide +kernel
theorem dX13_isLaidOut_121 : decode cX13_isLaidOut 121 = .ok (.aload_n 0, 1) := by decide +kernel
theorem dX13_isLaidOut_122 : decode cX13_isLaidOut 122 = .ok (.getfield 95, 3) := by decide +kernel
theorem dX13_isLaidOut_125 : decode cX13_isLaidOut 125 = .ok (.aload_n 0, 1) := by decide +kernel
theorem dX13_isLaidOut_126 : decode cX13_isLaidOut 126 = .ok (.getfield 205, 3) := by decide +kernel
theorem dX13_isLaidOut_129 : decode cX13_isLaidOut 129 = .ok (.iload 4, 2) := by decide +kernel
theorem dX13_isLaidOut_131 : decode cX13_isLaidOut 131 = .ok (.iastore, 1) := by decide +kernel
theorem dX13_isLaidOut_132 : decode cX13_isLaidOut 132 = .ok (.aload_n 0, 1) := by decide +kernel
theorem dX13_isLaidOut_133 : decode cX13_isLaidOut 133 = .ok (.dup, 1) := by decide +kernel
theorem dX13_isLaidOut_134 : decode cX13_isLaidOut 134 = .ok (.getfield 205, 3) := by decide +kernel
theorem dX13_isLaidOut_137 : decode cX13_isLaidOut 137 = .ok (.iconst 1, 1) := by decide +kernel
theorem dX13_isLaidOut_138 : decode cX13_isLaidOut 138 = .ok (.iadd, 1) := by decide +kernel
theorem dX13_isLaidOut_139 : decode cX13_isLaidOut 139 = .ok (.putfield 205, 3) := by decide +kernel
theorem dX13_isLaidOut_142 : decode cX13_isLaidOut 142 = .ok (.iconst 0, 1) := by decide +kernel
theorem dX13_isLaidOut_143 : decode cX13_isLaidOut 143 = .ok (.istore 4, 2) := by decide +kernel
theorem dX13_isLaidOut_145 : decode cX13_isLaidOut 145 = .ok (.aload_n 0, 1) := by decide +kernel
theorem dX13_isLaidOut_146 : decode cX13_isLaidOut 146 = .ok (.iload_n 1, 1) := by decide +kernel
theorem dX13_isLaidOut_147 : decode cX13_isLaidOut 147 = .ok (.invokevirtual 214, 3) := by decide +kernel
theorem dX13_isLaidOut_150 : decode cX13_isLaidOut 150 = .ok (.i2l, 1) := by decide +kernel
theorem dX13_isLaidOut_151 : decode cX13_isLaidOut 151 = .ok (.aload_n 0, 1) := by decide +kernel
theorem dX13_isLaidOut_152 : decode cX13_isLaidOut 152 = .ok (.getfield 72, 3) := by decide +kernel
theorem dX13_isLaidOut_155 : decode cX13_isLaidOut 155 = .ok (.iload_n 2, 1) := by decide +kernel
theorem dX13_isLaidOut_156 : decode cX13_isLaidOut 156 = .ok (.bipush 7, 2) := by decide +kernel
theorem dX13_isLaidOut_158 : decode cX13_isLaidOut 158 = .ok (.iadd, 1) := by decide +kernel
theorem dX13_isLaidOut_159 : decode cX13_isLaidOut 159 = .ok (.laload, 1) := by decide +kernel
theorem dX13_isLaidOut_160 : decode cX13_isLaidOut 160 = .ok (.lcmp, 1) := by decide +kernel
theorem dX13_isLaidOut_161 : decode cX13_isLaidOut 161 = .ok (.ifCond .ne 68, 3) := by decide +kernel
theorem dX13_isLaidOut_164 : decode cX13_isLaidOut 164 = .ok (.aload_n 0, 1) := by decide +kernel
theorem dX13_isLaidOut_165 : decode cX13_isLaidOut 165 = .ok (.iload_n 2, 1) := by decide +kernel
theorem dX13_isLaidOut_166 : decode cX13_isLaidOut 166 = .ok (.invokevirtual 368, 3) := by decide +kernel
theorem dX13_isLaidOut_169 : decode cX13_isLaidOut 169 = .ok (.istore_n 3, 1) := by decide +kernel
theorem dX13_isLaidOut_170 : decode cX13_isLaidOut 170 = .ok (.goto 59, 3) := by decide +kernel
theorem dX13_isLaidOut_173 : decode cX13_isLaidOut 173 = .ok (.aload_n 0, 1) := by decide +kernel
theorem dX13_isLaidOut_174 : decode cX13_isLaidOut 174 = .ok (.dup, 1) := by decide +kernel
theorem dX13_isLaidOut_175 : decode cX13_isLaidOut 175 = .ok (.getfield 205, 3) := by decide +kernel
theorem dX13_isLaidOut_178 : decode cX13_isLaidOut 178 = .ok (.iconst 1, 1) := by decide +kernel
theorem dX13_isLaidOut_179 : decode cX13_isLaidOut 179 = .ok (.isub, 1) := by decide +kernel
theorem dX13_isLaidOut_180 : decode cX13_isLaidOut 180 = .ok (.putfield 205, 3) := by decide +kernel
theorem dX13_isLaidOut_183 : decode cX13_isLaidOut 183 = .ok (.aload_n 0, 1) := by decide +kernel
theorem dX13_isLaidOut_184 : decode cX13_isLaidOut 184 = .ok (.getfield 205, 3) := by decide +kernel
theorem dX13_isLaidOut_187 : decode cX13_isLaidOut 187 = .ok (.ifCond .ge 10, 3) := by decide +kernel
theorem dX13_isLaidOut_190 : decode cX13_isLaidOut 190 = .ok (.aload_n 0, 1) := by decide +kernel
theorem dX13_isLaidOut_191 : decode cX13_isLaidOut 191 = .ok (.getfield 169, 3) := by decide +kernel
theorem dX13_isLaidOut_194 : decode cX13_isLaidOut 194 = .ok (.goto 14, 3) := by decide +kernel
theorem dX13_isLaidOut_197 : decode cX13_isLaidOut 197 = .ok (.aload_n 0, 1) := by decide +kernel
theorem dX13_isLaidOut_198 : decode cX13_isLaidOut 198 = .ok (.getfield 95, 3) := by decide +kernel
theorem dX13_isLaidOut_201 : decode cX13_isLaidOut 201 = .ok (.aload_n 0, 1) := by decide +kernel
theorem dX13_isLaidOut_202 : decode cX13_isLaidOut 202 = .ok (.getfield 205, 3) := by decide +kernel
theorem dX13_isLaidOut_205 : decode cX13_isLaidOut 205 = .ok (.iaload, 1) := by decide +kernel
theorem dX13_isLaidOut_206 : decode cX13_isLaidOut 206 = .ok (.iconst 1, 1) := by decide +kernel
theorem dX13_isLaidOut_207 : decode cX13_isLaidOut 207 = .ok (.iadd, 1) := by decide +kernel
theorem dX13_isLaidOut_208 : decode cX13_isLaidOut 208 = .ok (.istore 4, 2) := by decide +kernel
theorem dX13_isLaidOut_210 : decode cX13_isLaidOut 210 = .ok (.aload_n 0, 1) := by decide +kernel
theorem dX13_isLaidOut_211 : decode cX13_isLaidOut 211 = .ok (.aload_n 0, 1) := by decide +kernel
theorem dX13_isLaidOut_212 : decode cX13_isLaidOut 212 = .ok (.getfield 205, 3) := by decide +kernel
theorem dX13_isLaidOut_215 : decode cX13_isLaidOut 215 = .ok (.ifCond .ge 7, 3) := by decide +kernel
theorem dX13_isLaidOut_218 : decode cX13_isLaidOut 218 = .ok (.iconst 0, 1) := by decide +kernel
theorem dX13_isLaidOut_219 : decode cX13_isLaidOut 219 = .ok (.goto 7, 3) := by decide +kernel
theorem dX13_isLaidOut_222 : decode cX13_isLaidOut 222 = .ok (.aload_n 0, 1) := by decide +kernel
theorem dX13_isLaidOut_223 : decode cX13_isLaidOut 223 = .ok (.getfield 205, 3) := by decide +kernel
theorem dX13_isLaidOut_226 : decode cX13_isLaidOut 226 = .ok (.putfield 205, 3) := by decide +kernel
theorem dX13_isLaidOut_229 : decode cX13_isLaidOut 229 = .ok (.goto (-188), 3) := by decide +kernel
theorem dX13_isLaidOut_232 : decode cX13_isLaidOut 232 = .ok (.iload_n 3, 1) := by decide +kernel
theorem dX13_isLaidOut_233 : decode cX13_isLaidOut 233 = .ok (.ireturn, 1) := by decide +kernel

abbrev mX13_isLaidOut : sv_M := (cX13_isLaidOut, 6, yX13_isLaidOut, wsX13_isLaidOut, (some .boolean), { frames := 8, cells := 0, slots := 0, locals := 200 }, [])
/-- one row in one cell -/
def sgl (tc : Nat) (x : List Int64) (c : Nat) : List (List Int64) := if c = tc then [x] else []
/-- what it tells below place i of cell c -/
def fwL (pl : Nat) (p3 p4 : Nat → Nat) (mp : Nat → mvT) (L : Nat → List (List Int64)) (f c : Nat) (w : List Nat) (i : Nat) : List (List Int64) := if p3 i = c then lS pl p3 p4 mp L f (p4 i) (w ++ [i]) else []
theorem lS_fw (pl : Nat) (p3 p4 : Nat → Nat) (mp : Nat → mvT) (L : Nat → List (List Int64)) (f c : Nat) (w : List Nat) : lS pl p3 p4 mp L (f + 1) c w = (L c).map (mvR (mvW mp w)) ++ dR (fwL pl p3 p4 mp L f c w) 0 pl := by
  rw [dR_0]; rfl
set_option maxHeartbeats 4000000 in
set_option maxRecDepth 100000 in
theorem t_il41 (G : sv_G) (Qr : Option Value → sv_h → Nat → Prop) (z b nc np pl : Nat) (R : Nat → Bool) (hm p3 p4 sz : Nat → Nat) (ly vo : Nat → Int32) (mp : Nat → mvT) (X Y : Nat → Nat → Int) (hb : sv_h) (fs0 : List Value) (hq0 : mfq_ b nc np pl fs0) (MY : myl_ G hb b nc np pl R hm p3 p4 sz ly vo mp X Y) (r : Nat) (hr : r < 1500) (x0 y0 x1 y1 aI eI m : Int) (tc : Nat) (hx4 : (-200000 ≤ x0 ∧ x0 ≤ 200000) ∧ (-200000 ≤ y0 ∧ y0 ≤ 200000) ∧ (-200000 ≤ x1 ∧ x1 ≤ 200000) ∧ (-200000 ≤ y1 ∧ y1 ≤ 200000)) (FL : List (List Int64)) (hF15 : FL.length ≤ 1500) (f64 : fs0[64]? = some (.int (nI FL.length))) (ft : Nat → Int64) (A59 : ab_J G hb (b + 259) 10500 ft) (hft : ∀ k9 j9, k9 < FL.length → j9 < 7 → ft (7 * k9 + j9) = (FL.getD k9 []).getD j9 0) (hMBw : ∀ w : List Nat, (∀ i, i ∈ w → i < pl) → w.length < 16 → ∀ x y : Int, -200000 ≤ x ∧ x ≤ 200000 → -200000 ≤ y ∧ y ≤ 200000 → (-1000000000 ≤ (mvA (mvW mp w) (x, y)).1 ∧ (mvA (mvW mp w) (x, y)).1 ≤ 1000000000) ∧ (-1000000000 ≤ (mvA (mvW mp w) (x, y)).2 ∧ (mvA (mvW mp w) (x, y)).2 ≤ 1000000000)) (top : Nat) (htop : top < nc) (rk : Nat → Nat) (hrk : ∀ i, i < pl → rk (p4 i) < rk (p3 i)) (SZ : szc_ G hb b nc np pl R hm p3 p4) (htc : tc < nc) (hF : ∀ w, vwy pl p3 p4 top w tc → w.length < 16 → FL.any (fun y => alk y (xrW mp x0 y0 x1 y1 aI eI m (tc : Int) w) 7) = true) (hSk : ∀ i, i < pl → gr_R pl p3 p4 top (p3 i) → oc_n np pl R hm p3 p4 16 (p4 i) = 0 → ∀ f w, lS pl p3 p4 mp (sgl tc (rwI x0 y0 x1 y1 aI eI m (tc : Int))) f (p4 i) w = []) (gt0 : Nat → Int64) (hrow : (gt0 (12 * r + 4) = jN aI ∧ gt0 (12 * r + 5) = jN eI ∧ gt0 (12 * r + 6) = jN m ∧ gt0 (12 * r + 7) = jN (tc : Int)) ∧ gt0 (12 * r + 8) = jN x0 ∧ gt0 (12 * r + 9) = jN y0 ∧ gt0 (12 * r + 10) = jN x1 ∧ gt0 (12 * r + 11) = jN y1) (wy : List Nat) (hwp2 : ∀ i, i ∈ wy → i < pl) (i : Nat) (hip : i ≤ pl) (hor : 0 < wy.length ∨ i < pl) (VL : List (List Int64)) (h : sv_h) (fs : List Value) (hm9 : h (b + 220) = some (.inr (11, fs))) (hl : fs.length = 71) (hE : fsE [41, 52, 53, 60, 61] fs0 fs) (f_deep : fs[41]? = some (.int (nI (wy).length))) (MS : mst_ G h b (wy)) (GT : ∃ gt, ab_J G h (b + 241) 36048 gt ∧ ∀ a, ¬ (12 * r ≤ a ∧ a < 12 * r + 4) → gt a = gt0 a) (MT : ∃ mt, ab_Z G h (b + 260) 1500 mt ∧ ∀ i9, i9 < FL.length → mt i9 = bI ((fun i9 => (VL).any (fun x => alk (FL.getD i9 []) x 7)) i9)) (A46 : ∃ f, ab_I G h (b + 246) 1616 f) (fr : (∀ a, a ≠ b + 220 → a ≠ b + 241 → a ≠ b + 246 → a ≠ b + 247 → a ≠ b + 260 → h a = hb a)) (hk : V G mX13_isLaidOut (sv_MQ G mX13_isLaidOut Qr) 68 [(5, .int (nI (mcl p4 top wy wy.length))), (4, .int (nI i)), (3, .int 1), (2, .int (nI (12 * r))), (1, .int (nI top)), (0, .ref (b + 220))] [] h z 0 0) : V G mX13_isLaidOut (sv_MQ G mX13_isLaidOut Qr) 41 [(4, .int (nI i)), (3, .int 1), (2, .int (nI (12 * r))), (1, .int (nI top)), (0, .ref (b + 220))] [] h z 0 0 := by
  have hqf := hq0.to (S := [41, 52, 53, 60, 61]) hl hE (by decide)
  have hlen : fs.length = 71 := hl
  obtain ⟨_, _, _, _, _, _, ⟨g6, y6, y6a⟩, ⟨g7, y7, y7a⟩, _, _, _, yB, yC, yD, yE, yF⟩ := id MY
  have w227 : ab_I G h (b + 227) 32 g6 := (fr _ (by omega) (by omega) (by omega) (by omega) (by omega)).trans y6
  have w228 : ab_I G h (b + 228) 32 g7 := (fr _ (by omega) (by omega) (by omega) (by omega) (by omega)).trans y7
  have MYh := MY.kp (fun a p1 p2 => fr a (by omega) (by omega) (by omega) (by omega) (by omega))
  obtain ⟨fst, s1, s2, s3⟩ := id MS
  have f_places := hqf.f_places
  have f_placeIn := hqf.f_placeIn
  have f_placeOf := hqf.f_placeOf
  have f_stack := hqf.f_stack
  have f_sizes := hqf.f_sizes
  have f_told := hqf.f_told
  refine v_iload_n dX13_isLaidOut_41 rfl 1 rfl ?_
  refine v_if_eq (tgt := 232) dX13_isLaidOut_42 (by decide) (fun c_42 => ?_) (fun c_42 => ?_)
  · exact absurd c_42 (by decide)
  · refine v_aload_n dX13_isLaidOut_45 rfl 4 rfl ?_
    refine v_getf 41 (ci := 11) (C := RX13) (T := TX13) (N := 71) rfl iwX13_isLaidOut_X13 (Nat.le_of_ble_eq_true rfl) (by decide +kernel) dX13_isLaidOut_46 (by first | with_reducible assumption) (by repeat (first | with_reducible assumption | (with_reducible refine (sv_ls (by first | omega | (simp only [List.length_set]; omega))).trans ?_; exact rfl) | with_reducible refine (List.getElem?_set_ne (by decide)).trans ?_)) ?_
    refine v_if_gt (tgt := 61) dX13_isLaidOut_49 (by decide) (fun c_49 => ?_) (fun c_49 => ?_)
    · refine v_aload_n dX13_isLaidOut_61 rfl 4 rfl ?_
      refine v_iload_n dX13_isLaidOut_62 rfl 3 rfl ?_
      refine v_callVq (M' := mX13_cellAt) (n := 1) (As := [_]) (ci := 11) (r := (RX13, TX13, 71)) gX13_isLaidOut_X13_cellAt rfl (by decide +kernel) ⟨(Nat.le_of_ble_eq_true rfl), (Nat.le_of_ble_eq_true rfl)⟩ rfl rfl dX13_isLaidOut_63 rfl ⟨(Nat.le_of_ble_eq_true rfl), (Nat.le_of_ble_eq_true rfl)⟩ (Nat.le_of_ble_eq_true rfl) (by first | with_reducible assumption) rfl (m_cellAt G _ b nc np pl R hm p3 p4 sz ly vo mp X Y h fs hqf MYh _ MS f_deep hwp2 hm9 top) (fun v9 h9 y9 hq => v_pq hq ?_)
      refine v_istore (L' := [(5, _), (4, _), (3, _), (2, _), (1, _), (0, _)]) dX13_isLaidOut_66 (Nat.le_of_ble_eq_true rfl) rfl ?_
      refine v_sub (L' := [(5, _), (4, _), (3, _), (2, _), (1, _), (0, _)]) [0, 1, 2, 3, 4, 5] rfl ?_
      exact hk
    · refine v_iload dX13_isLaidOut_52 0 rfl ?_
      refine v_aload_n dX13_isLaidOut_54 rfl 4 rfl ?_
      refine v_getf 10 (ci := 11) (C := RX13) (T := TX13) (N := 71) rfl iwX13_isLaidOut_X13 (Nat.le_of_ble_eq_true rfl) (by decide +kernel) dX13_isLaidOut_55 (by first | with_reducible assumption) (by repeat (first | with_reducible assumption | (with_reducible refine (sv_ls (by first | omega | (simp only [List.length_set]; omega))).trans ?_; exact rfl) | with_reducible refine (List.getElem?_set_ne (by decide)).trans ?_)) ?_
      refine v_icmp_ge (tgt := 232) dX13_isLaidOut_58 (by decide) (fun c_58 => ?_) (fun c_58 => ?_)
      · exact hor.elim (fun e9 => absurd (Int32.not_le.mp (nI_ge (a := 0) e9 (by omega))) c_49) (fun e9 => absurd c_58 (nI_ge e9 (by omega)))
      · refine v_aload_n dX13_isLaidOut_61 rfl 4 rfl ?_
        refine v_iload_n dX13_isLaidOut_62 rfl 3 rfl ?_
        refine v_callVq (M' := mX13_cellAt) (n := 1) (As := [_]) (ci := 11) (r := (RX13, TX13, 71)) gX13_isLaidOut_X13_cellAt rfl (by decide +kernel) ⟨(Nat.le_of_ble_eq_true rfl), (Nat.le_of_ble_eq_true rfl)⟩ rfl rfl dX13_isLaidOut_63 rfl ⟨(Nat.le_of_ble_eq_true rfl), (Nat.le_of_ble_eq_true rfl)⟩ (Nat.le_of_ble_eq_true rfl) (by first | with_reducible assumption) rfl (m_cellAt G _ b nc np pl R hm p3 p4 sz ly vo mp X Y h fs hqf MYh _ MS f_deep hwp2 hm9 top) (fun v9 h9 y9 hq => v_pq hq ?_)
        refine v_istore (L' := [(5, _), (4, _), (3, _), (2, _), (1, _), (0, _)]) dX13_isLaidOut_66 (Nat.le_of_ble_eq_true rfl) rfl ?_
        refine v_sub (L' := [(5, _), (4, _), (3, _), (2, _), (1, _), (0, _)]) [0, 1, 2, 3, 4, 5] rfl ?_
        exact hk

set_option maxHeartbeats 4000000 in
set_option maxRecDepth 100000 in
theorem t_il173 (G : sv_G) (Qr : Option Value → sv_h → Nat → Prop) (z b nc np pl : Nat) (R : Nat → Bool) (hm p3 p4 sz : Nat → Nat) (ly vo : Nat → Int32) (mp : Nat → mvT) (X Y : Nat → Nat → Int) (hb : sv_h) (fs0 : List Value) (hq0 : mfq_ b nc np pl fs0) (MY : myl_ G hb b nc np pl R hm p3 p4 sz ly vo mp X Y) (r : Nat) (hr : r < 1500) (x0 y0 x1 y1 aI eI m : Int) (tc : Nat) (hx4 : (-200000 ≤ x0 ∧ x0 ≤ 200000) ∧ (-200000 ≤ y0 ∧ y0 ≤ 200000) ∧ (-200000 ≤ x1 ∧ x1 ≤ 200000) ∧ (-200000 ≤ y1 ∧ y1 ≤ 200000)) (FL : List (List Int64)) (hF15 : FL.length ≤ 1500) (f64 : fs0[64]? = some (.int (nI FL.length))) (ft : Nat → Int64) (A59 : ab_J G hb (b + 259) 10500 ft) (hft : ∀ k9 j9, k9 < FL.length → j9 < 7 → ft (7 * k9 + j9) = (FL.getD k9 []).getD j9 0) (hMBw : ∀ w : List Nat, (∀ i, i ∈ w → i < pl) → w.length < 16 → ∀ x y : Int, -200000 ≤ x ∧ x ≤ 200000 → -200000 ≤ y ∧ y ≤ 200000 → (-1000000000 ≤ (mvA (mvW mp w) (x, y)).1 ∧ (mvA (mvW mp w) (x, y)).1 ≤ 1000000000) ∧ (-1000000000 ≤ (mvA (mvW mp w) (x, y)).2 ∧ (mvA (mvW mp w) (x, y)).2 ≤ 1000000000)) (top : Nat) (htop : top < nc) (rk : Nat → Nat) (hrk : ∀ i, i < pl → rk (p4 i) < rk (p3 i)) (SZ : szc_ G hb b nc np pl R hm p3 p4) (htc : tc < nc) (hF : ∀ w, vwy pl p3 p4 top w tc → w.length < 16 → FL.any (fun y => alk y (xrW mp x0 y0 x1 y1 aI eI m (tc : Int) w) 7) = true) (hSk : ∀ i, i < pl → gr_R pl p3 p4 top (p3 i) → oc_n np pl R hm p3 p4 16 (p4 i) = 0 → ∀ f w, lS pl p3 p4 mp (sgl tc (rwI x0 y0 x1 y1 aI eI m (tc : Int))) f (p4 i) w = []) (gt0 : Nat → Int64) (hrow : (gt0 (12 * r + 4) = jN aI ∧ gt0 (12 * r + 5) = jN eI ∧ gt0 (12 * r + 6) = jN m ∧ gt0 (12 * r + 7) = jN (tc : Int)) ∧ gt0 (12 * r + 8) = jN x0 ∧ gt0 (12 * r + 9) = jN y0 ∧ gt0 (12 * r + 10) = jN x1 ∧ gt0 (12 * r + 11) = jN y1) (wy : List Nat) (c j i : Nat) (hi : i < pl) (VL : List (List Int64)) (h : sv_h) (fs : List Value) (hm9 : h (b + 220) = some (.inr (11, fs))) (hl : fs.length = 71) (hE : fsE [41, 52, 53, 60, 61] fs0 fs) (f_deep : fs[41]? = some (.int (nI (wy ++ [i]).length))) (MS : mst_ G h b (wy ++ [i])) (GT : ∃ gt, ab_J G h (b + 241) 36048 gt ∧ ∀ a, ¬ (12 * r ≤ a ∧ a < 12 * r + 4) → gt a = gt0 a) (MT : ∃ mt, ab_Z G h (b + 260) 1500 mt ∧ ∀ i9, i9 < FL.length → mt i9 = bI ((fun i9 => (VL).any (fun x => alk (FL.getD i9 []) x 7)) i9)) (A46 : ∃ f, ab_I G h (b + 246) 1616 f) (fr : (∀ a, a ≠ b + 220 → a ≠ b + 241 → a ≠ b + 246 → a ≠ b + 247 → a ≠ b + 260 → h a = hb a)) (hk : ∀ (h : sv_h) (fs : List Value), h (b + 220) = some (.inr (11, fs)) → fs.length = 71 → fsE [41, 52, 53, 60, 61] fs0 fs → fs[41]? = some (.int (nI (wy).length)) → mst_ G h b (wy) → (∃ gt, ab_J G h (b + 241) 36048 gt ∧ ∀ a, ¬ (12 * r ≤ a ∧ a < 12 * r + 4) → gt a = gt0 a) → (∃ mt, ab_Z G h (b + 260) 1500 mt ∧ ∀ i9, i9 < FL.length → mt i9 = bI ((fun i9 => (VL).any (fun x => alk (FL.getD i9 []) x 7)) i9)) → (∃ f, ab_I G h (b + 246) 1616 f) → (∀ a, a ≠ b + 220 → a ≠ b + 241 → a ≠ b + 246 → a ≠ b + 247 → a ≠ b + 260 → h a = hb a) → V G mX13_isLaidOut (sv_MQ G mX13_isLaidOut Qr) 41 [(4, .int (nI (i + 1))), (3, .int 1), (2, .int (nI (12 * r))), (1, .int (nI top)), (0, .ref (b + 220))] [] h z 0 0) : V G mX13_isLaidOut (sv_MQ G mX13_isLaidOut Qr) 173 [(5, .int (nI c)), (4, .int (nI j)), (3, .int 1), (2, .int (nI (12 * r))), (1, .int (nI top)), (0, .ref (b + 220))] [] h z 0 0 := by
  have hqf := hq0.to (S := [41, 52, 53, 60, 61]) hl hE (by decide)
  have hlen : fs.length = 71 := hl
  obtain ⟨_, _, _, _, _, _, ⟨g6, y6, y6a⟩, ⟨g7, y7, y7a⟩, _, _, _, yB, yC, yD, yE, yF⟩ := id MY
  have w227 : ab_I G h (b + 227) 32 g6 := (fr _ (by omega) (by omega) (by omega) (by omega) (by omega)).trans y6
  have w228 : ab_I G h (b + 228) 32 g7 := (fr _ (by omega) (by omega) (by omega) (by omega) (by omega)).trans y7
  have MYh := MY.kp (fun a p1 p2 => fr a (by omega) (by omega) (by omega) (by omega) (by omega))
  obtain ⟨fst, s1, s2, s3⟩ := id MS
  have f_places := hqf.f_places
  have f_placeIn := hqf.f_placeIn
  have f_placeOf := hqf.f_placeOf
  have f_stack := hqf.f_stack
  have f_sizes := hqf.f_sizes
  have f_told := hqf.f_told
  have w247 : ab_I G h (b + 247) 17 fst := s1
  rw [List.length_append] at s2
  have s2 : wy.length + 1 ≤ 16 := s2
  have s3i : fst wy.length = nI i := (s3 wy.length (by rw [List.length_append]; exact Nat.lt_succ_self _)).trans (by rw [gA_e])
  refine v_aload_n dX13_isLaidOut_173 rfl 5 rfl ?_
  refine v_dup dX13_isLaidOut_174 rfl ?_
  refine v_getf 41 (ci := 11) (C := RX13) (T := TX13) (N := 71) rfl iwX13_isLaidOut_X13 (Nat.le_of_ble_eq_true rfl) (by decide +kernel) dX13_isLaidOut_175 (by repeat (first | with_reducible assumption | (with_reducible refine sv_us.trans ?_; exact rfl) | with_reducible refine (sv_un (by omega)).trans ?_)) (by repeat (first | with_reducible assumption | (with_reducible refine (sv_ls (by first | omega | (simp only [List.length_set]; omega))).trans ?_; exact rfl) | with_reducible refine (List.getElem?_set_ne (by decide)).trans ?_)) ?_
  refine v_iconst (v := 1) dX13_isLaidOut_178 (by decide) ?_
  refine v_isub dX13_isLaidOut_179 ?_
  rw [show nI (wy ++ [i]).length - 1 = nI wy.length from by rw [List.length_append]; exact nI_s1 _]
  refine v_putf 41 (fs' := _) (ci := 11) (C := RX13) (T := TX13) (N := 71) (ty := .int) rfl iwX13_isLaidOut_X13 tyX13 tyX13_ok nmX13 (Nat.le_of_ble_eq_true rfl) (by decide +kernel) rfl rfl dX13_isLaidOut_180 rfl rfl (by repeat (first | with_reducible assumption | (with_reducible refine sv_us.trans ?_; exact rfl) | with_reducible refine (sv_un (by omega)).trans ?_)) (by first | omega | (simp only [List.length_set]; omega)) rfl ?_
  refine v_aload_n dX13_isLaidOut_183 rfl 5 rfl ?_
  refine v_getf 41 (ci := 11) (C := RX13) (T := TX13) (N := 71) rfl iwX13_isLaidOut_X13 (Nat.le_of_ble_eq_true rfl) (by decide +kernel) dX13_isLaidOut_184 (by repeat (first | with_reducible assumption | (with_reducible refine sv_us.trans ?_; exact rfl) | with_reducible refine (sv_un (by omega)).trans ?_)) (by repeat (first | with_reducible assumption | (with_reducible refine (sv_ls (by first | omega | (simp only [List.length_set]; omega))).trans ?_; exact rfl) | with_reducible refine (List.getElem?_set_ne (by decide)).trans ?_)) ?_
  refine v_if_ge (tgt := 197) dX13_isLaidOut_187 (by decide) (fun c_187 => ?_) (fun c_187 => ?_)
  · refine v_aload_n dX13_isLaidOut_197 rfl 5 rfl ?_
    refine v_getf 40 (ci := 11) (C := RX13) (T := TX13) (N := 71) rfl iwX13_isLaidOut_X13 (Nat.le_of_ble_eq_true rfl) (by decide +kernel) dX13_isLaidOut_198 (by repeat (first | with_reducible assumption | (with_reducible refine sv_us.trans ?_; exact rfl) | with_reducible refine (sv_un (by omega)).trans ?_)) (by repeat (first | with_reducible assumption | (with_reducible refine (sv_ls (by first | omega | (simp only [List.length_set]; omega))).trans ?_; exact rfl) | with_reducible refine (List.getElem?_set_ne (by decide)).trans ?_)) ?_
    refine v_aload_n dX13_isLaidOut_201 rfl 5 rfl ?_
    refine v_getf 41 (ci := 11) (C := RX13) (T := TX13) (N := 71) rfl iwX13_isLaidOut_X13 (Nat.le_of_ble_eq_true rfl) (by decide +kernel) dX13_isLaidOut_202 (by repeat (first | with_reducible assumption | (with_reducible refine sv_us.trans ?_; exact rfl) | with_reducible refine (sv_un (by omega)).trans ?_)) (by repeat (first | with_reducible assumption | (with_reducible refine (sv_ls (by first | omega | (simp only [List.length_set]; omega))).trans ?_; exact rfl) | with_reducible refine (List.getElem?_set_ne (by decide)).trans ?_)) ?_
    refine v_ialdS (v := nI i) dX13_isLaidOut_205 (by repeat (first | with_reducible assumption | (with_reducible refine sv_us.trans ?_; exact rfl) | with_reducible refine (sv_un (by omega)).trans ?_)) (vp_in_nI (by omega) (by omega)) (by rw [nI_clamp (by omega)]; exact s3i) ?_
    refine v_iconst (v := 1) dX13_isLaidOut_206 (by decide) ?_
    refine v_iadd dX13_isLaidOut_207 ?_
    rw [show nI i + 1 = nI (i + 1) from nI_1 _]
    refine v_istore (L' := [(4, _), (5, _), (3, _), (2, _), (1, _), (0, _)]) dX13_isLaidOut_208 (Nat.le_of_ble_eq_true rfl) rfl ?_
    refine v_aload_n dX13_isLaidOut_210 rfl 5 rfl ?_
    refine v_aload_n dX13_isLaidOut_211 rfl 5 rfl ?_
    refine v_getf 41 (ci := 11) (C := RX13) (T := TX13) (N := 71) rfl iwX13_isLaidOut_X13 (Nat.le_of_ble_eq_true rfl) (by decide +kernel) dX13_isLaidOut_212 (by repeat (first | with_reducible assumption | (with_reducible refine sv_us.trans ?_; exact rfl) | with_reducible refine (sv_un (by omega)).trans ?_)) (by repeat (first | with_reducible assumption | (with_reducible refine (sv_ls (by first | omega | (simp only [List.length_set]; omega))).trans ?_; exact rfl) | with_reducible refine (List.getElem?_set_ne (by decide)).trans ?_)) ?_
    refine v_if_ge (tgt := 222) dX13_isLaidOut_215 (by decide) (fun c_215 => ?_) (fun c_215 => ?_)
    · refine v_aload_n dX13_isLaidOut_222 rfl 5 rfl ?_
      refine v_getf 41 (ci := 11) (C := RX13) (T := TX13) (N := 71) rfl iwX13_isLaidOut_X13 (Nat.le_of_ble_eq_true rfl) (by decide +kernel) dX13_isLaidOut_223 (by repeat (first | with_reducible assumption | (with_reducible refine sv_us.trans ?_; exact rfl) | with_reducible refine (sv_un (by omega)).trans ?_)) (by repeat (first | with_reducible assumption | (with_reducible refine (sv_ls (by first | omega | (simp only [List.length_set]; omega))).trans ?_; exact rfl) | with_reducible refine (List.getElem?_set_ne (by decide)).trans ?_)) ?_
      refine v_putf 41 (fs' := _) (ci := 11) (C := RX13) (T := TX13) (N := 71) (ty := .int) rfl iwX13_isLaidOut_X13 tyX13 tyX13_ok nmX13 (Nat.le_of_ble_eq_true rfl) (by decide +kernel) rfl rfl dX13_isLaidOut_226 rfl rfl (by repeat (first | with_reducible assumption | (with_reducible refine sv_us.trans ?_; exact rfl) | with_reducible refine (sv_un (by omega)).trans ?_)) (by first | omega | (simp only [List.length_set]; omega)) rfl ?_
      refine v_goto (tgt := 41) dX13_isLaidOut_229 (by decide) ?_
      refine v_sub (L' := [(4, _), (3, _), (2, _), (1, _), (0, _)]) [0, 2, 3, 4, 5] rfl ?_
      exact hk _ _ sv_us (by rw [List.length_set, List.length_set]; exact hl) ((hE.st (by decide)).st (by decide)) (sv_ls (by rw [List.length_set]; omega)) ((mst_p MS).kp ((sv_un (by omega)).trans (sv_un (by omega)))) (by obtain ⟨gt, q1, q2⟩ := GT; exact ⟨gt, (sv_un (by omega)).trans ((sv_un (by omega)).trans q1), q2⟩) (by obtain ⟨mt, q1, q2⟩ := MT; exact ⟨mt, (sv_un (by omega)).trans ((sv_un (by omega)).trans q1), q2⟩) (by obtain ⟨f, q1⟩ := A46; exact ⟨f, (sv_un (by omega)).trans ((sv_un (by omega)).trans q1)⟩) (fun a p1 p2 p3_ p4_ p5 => (sv_un p1).trans ((sv_un p1).trans (fr a p1 p2 p3_ p4_ p5)))
    · exact absurd (nI_le (a := 0) (Nat.zero_le wy.length) (by omega)) c_215
  · exact absurd (nI_le (a := 0) (Nat.zero_le wy.length) (by omega)) c_187

set_option maxHeartbeats 4000000 in
set_option maxRecDepth 100000 in
theorem t_il173z (G : sv_G) (Qr : Option Value → sv_h → Nat → Prop) (z b nc np pl : Nat) (R : Nat → Bool) (hm p3 p4 sz : Nat → Nat) (ly vo : Nat → Int32) (mp : Nat → mvT) (X Y : Nat → Nat → Int) (hb : sv_h) (fs0 : List Value) (hq0 : mfq_ b nc np pl fs0) (MY : myl_ G hb b nc np pl R hm p3 p4 sz ly vo mp X Y) (r : Nat) (hr : r < 1500) (x0 y0 x1 y1 aI eI m : Int) (tc : Nat) (hx4 : (-200000 ≤ x0 ∧ x0 ≤ 200000) ∧ (-200000 ≤ y0 ∧ y0 ≤ 200000) ∧ (-200000 ≤ x1 ∧ x1 ≤ 200000) ∧ (-200000 ≤ y1 ∧ y1 ≤ 200000)) (FL : List (List Int64)) (hF15 : FL.length ≤ 1500) (f64 : fs0[64]? = some (.int (nI FL.length))) (ft : Nat → Int64) (A59 : ab_J G hb (b + 259) 10500 ft) (hft : ∀ k9 j9, k9 < FL.length → j9 < 7 → ft (7 * k9 + j9) = (FL.getD k9 []).getD j9 0) (hMBw : ∀ w : List Nat, (∀ i, i ∈ w → i < pl) → w.length < 16 → ∀ x y : Int, -200000 ≤ x ∧ x ≤ 200000 → -200000 ≤ y ∧ y ≤ 200000 → (-1000000000 ≤ (mvA (mvW mp w) (x, y)).1 ∧ (mvA (mvW mp w) (x, y)).1 ≤ 1000000000) ∧ (-1000000000 ≤ (mvA (mvW mp w) (x, y)).2 ∧ (mvA (mvW mp w) (x, y)).2 ≤ 1000000000)) (top : Nat) (htop : top < nc) (rk : Nat → Nat) (hrk : ∀ i, i < pl → rk (p4 i) < rk (p3 i)) (SZ : szc_ G hb b nc np pl R hm p3 p4) (htc : tc < nc) (hF : ∀ w, vwy pl p3 p4 top w tc → w.length < 16 → FL.any (fun y => alk y (xrW mp x0 y0 x1 y1 aI eI m (tc : Int) w) 7) = true) (hSk : ∀ i, i < pl → gr_R pl p3 p4 top (p3 i) → oc_n np pl R hm p3 p4 16 (p4 i) = 0 → ∀ f w, lS pl p3 p4 mp (sgl tc (rwI x0 y0 x1 y1 aI eI m (tc : Int))) f (p4 i) w = []) (gt0 : Nat → Int64) (hrow : (gt0 (12 * r + 4) = jN aI ∧ gt0 (12 * r + 5) = jN eI ∧ gt0 (12 * r + 6) = jN m ∧ gt0 (12 * r + 7) = jN (tc : Int)) ∧ gt0 (12 * r + 8) = jN x0 ∧ gt0 (12 * r + 9) = jN y0 ∧ gt0 (12 * r + 10) = jN x1 ∧ gt0 (12 * r + 11) = jN y1) (c j : Nat) (VL : List (List Int64)) (h : sv_h) (fs : List Value) (hm9 : h (b + 220) = some (.inr (11, fs))) (hl : fs.length = 71) (hE : fsE [41, 52, 53, 60, 61] fs0 fs) (f_deep : fs[41]? = some (.int (nI (([] : List Nat)).length))) (MS : mst_ G h b (([] : List Nat))) (GT : ∃ gt, ab_J G h (b + 241) 36048 gt ∧ ∀ a, ¬ (12 * r ≤ a ∧ a < 12 * r + 4) → gt a = gt0 a) (MT : ∃ mt, ab_Z G h (b + 260) 1500 mt ∧ ∀ i9, i9 < FL.length → mt i9 = bI ((fun i9 => (VL).any (fun x => alk (FL.getD i9 []) x 7)) i9)) (A46 : ∃ f, ab_I G h (b + 246) 1616 f) (fr : (∀ a, a ≠ b + 220 → a ≠ b + 241 → a ≠ b + 246 → a ≠ b + 247 → a ≠ b + 260 → h a = hb a)) (hk : ∀ (h : sv_h) (fs : List Value), h (b + 220) = some (.inr (11, fs)) → fs.length = 71 → fsE [41, 52, 53, 60, 61] fs0 fs → fs[41]? = some (.int (nI (([] : List Nat)).length)) → mst_ G h b (([] : List Nat)) → (∃ gt, ab_J G h (b + 241) 36048 gt ∧ ∀ a, ¬ (12 * r ≤ a ∧ a < 12 * r + 4) → gt a = gt0 a) → (∃ mt, ab_Z G h (b + 260) 1500 mt ∧ ∀ i9, i9 < FL.length → mt i9 = bI ((fun i9 => (VL).any (fun x => alk (FL.getD i9 []) x 7)) i9)) → (∃ f, ab_I G h (b + 246) 1616 f) → (∀ a, a ≠ b + 220 → a ≠ b + 241 → a ≠ b + 246 → a ≠ b + 247 → a ≠ b + 260 → h a = hb a) → V G mX13_isLaidOut (sv_MQ G mX13_isLaidOut Qr) 41 [(4, .int (nI pl)), (3, .int 1), (2, .int (nI (12 * r))), (1, .int (nI top)), (0, .ref (b + 220))] [] h z 0 0) : V G mX13_isLaidOut (sv_MQ G mX13_isLaidOut Qr) 173 [(5, .int (nI c)), (4, .int (nI j)), (3, .int 1), (2, .int (nI (12 * r))), (1, .int (nI top)), (0, .ref (b + 220))] [] h z 0 0 := by
  have hqf := hq0.to (S := [41, 52, 53, 60, 61]) hl hE (by decide)
  have hlen : fs.length = 71 := hl
  obtain ⟨_, _, _, _, _, _, ⟨g6, y6, y6a⟩, ⟨g7, y7, y7a⟩, _, _, _, yB, yC, yD, yE, yF⟩ := id MY
  have w227 : ab_I G h (b + 227) 32 g6 := (fr _ (by omega) (by omega) (by omega) (by omega) (by omega)).trans y6
  have w228 : ab_I G h (b + 228) 32 g7 := (fr _ (by omega) (by omega) (by omega) (by omega) (by omega)).trans y7
  have MYh := MY.kp (fun a p1 p2 => fr a (by omega) (by omega) (by omega) (by omega) (by omega))
  obtain ⟨fst, s1, s2, s3⟩ := id MS
  have f_places := hqf.f_places
  have f_placeIn := hqf.f_placeIn
  have f_placeOf := hqf.f_placeOf
  have f_stack := hqf.f_stack
  have f_sizes := hqf.f_sizes
  have f_told := hqf.f_told
  refine v_aload_n dX13_isLaidOut_173 rfl 5 rfl ?_
  refine v_dup dX13_isLaidOut_174 rfl ?_
  refine v_getf 41 (ci := 11) (C := RX13) (T := TX13) (N := 71) rfl iwX13_isLaidOut_X13 (Nat.le_of_ble_eq_true rfl) (by decide +kernel) dX13_isLaidOut_175 (by repeat (first | with_reducible assumption | (with_reducible refine sv_us.trans ?_; exact rfl) | with_reducible refine (sv_un (by omega)).trans ?_)) (by repeat (first | with_reducible assumption | (with_reducible refine (sv_ls (by first | omega | (simp only [List.length_set]; omega))).trans ?_; exact rfl) | with_reducible refine (List.getElem?_set_ne (by decide)).trans ?_)) ?_
  refine v_iconst (v := 1) dX13_isLaidOut_178 (by decide) ?_
  refine v_isub dX13_isLaidOut_179 ?_
  refine v_putf 41 (fs' := _) (ci := 11) (C := RX13) (T := TX13) (N := 71) (ty := .int) rfl iwX13_isLaidOut_X13 tyX13 tyX13_ok nmX13 (Nat.le_of_ble_eq_true rfl) (by decide +kernel) rfl rfl dX13_isLaidOut_180 rfl rfl (by repeat (first | with_reducible assumption | (with_reducible refine sv_us.trans ?_; exact rfl) | with_reducible refine (sv_un (by omega)).trans ?_)) (by first | omega | (simp only [List.length_set]; omega)) rfl ?_
  refine v_aload_n dX13_isLaidOut_183 rfl 5 rfl ?_
  refine v_getf 41 (ci := 11) (C := RX13) (T := TX13) (N := 71) rfl iwX13_isLaidOut_X13 (Nat.le_of_ble_eq_true rfl) (by decide +kernel) dX13_isLaidOut_184 (by repeat (first | with_reducible assumption | (with_reducible refine sv_us.trans ?_; exact rfl) | with_reducible refine (sv_un (by omega)).trans ?_)) (by repeat (first | with_reducible assumption | (with_reducible refine (sv_ls (by first | omega | (simp only [List.length_set]; omega))).trans ?_; exact rfl) | with_reducible refine (List.getElem?_set_ne (by decide)).trans ?_)) ?_
  refine v_if_ge (tgt := 197) dX13_isLaidOut_187 (by decide) (fun c_187 => ?_) (fun c_187 => ?_)
  · exact absurd c_187 (by decide)
  · refine v_aload_n dX13_isLaidOut_190 rfl 5 rfl ?_
    refine v_getf 10 (ci := 11) (C := RX13) (T := TX13) (N := 71) rfl iwX13_isLaidOut_X13 (Nat.le_of_ble_eq_true rfl) (by decide +kernel) dX13_isLaidOut_191 (by repeat (first | with_reducible assumption | (with_reducible refine sv_us.trans ?_; exact rfl) | with_reducible refine (sv_un (by omega)).trans ?_)) (by repeat (first | with_reducible assumption | (with_reducible refine (sv_ls (by first | omega | (simp only [List.length_set]; omega))).trans ?_; exact rfl) | with_reducible refine (List.getElem?_set_ne (by decide)).trans ?_)) ?_
    refine v_goto (tgt := 208) dX13_isLaidOut_194 (by decide) ?_
    refine v_istore (L' := [(4, _), (5, _), (3, _), (2, _), (1, _), (0, _)]) dX13_isLaidOut_208 (Nat.le_of_ble_eq_true rfl) rfl ?_
    refine v_aload_n dX13_isLaidOut_210 rfl 5 rfl ?_
    refine v_aload_n dX13_isLaidOut_211 rfl 5 rfl ?_
    refine v_getf 41 (ci := 11) (C := RX13) (T := TX13) (N := 71) rfl iwX13_isLaidOut_X13 (Nat.le_of_ble_eq_true rfl) (by decide +kernel) dX13_isLaidOut_212 (by repeat (first | with_reducible assumption | (with_reducible refine sv_us.trans ?_; exact rfl) | with_reducible refine (sv_un (by omega)).trans ?_)) (by repeat (first | with_reducible assumption | (with_reducible refine (sv_ls (by first | omega | (simp only [List.length_set]; omega))).trans ?_; exact rfl) | with_reducible refine (List.getElem?_set_ne (by decide)).trans ?_)) ?_
    refine v_if_ge (tgt := 222) dX13_isLaidOut_215 (by decide) (fun c_215 => ?_) (fun c_215 => ?_)
    · exact absurd c_215 (by decide)
    · refine v_iconst (v := 0) dX13_isLaidOut_218 (by decide) ?_
      refine v_goto (tgt := 226) dX13_isLaidOut_219 (by decide) ?_
      refine v_putf 41 (fs' := _) (ci := 11) (C := RX13) (T := TX13) (N := 71) (ty := .int) rfl iwX13_isLaidOut_X13 tyX13 tyX13_ok nmX13 (Nat.le_of_ble_eq_true rfl) (by decide +kernel) rfl rfl dX13_isLaidOut_226 rfl rfl (by repeat (first | with_reducible assumption | (with_reducible refine sv_us.trans ?_; exact rfl) | with_reducible refine (sv_un (by omega)).trans ?_)) (by first | omega | (simp only [List.length_set]; omega)) rfl ?_
      refine v_goto (tgt := 41) dX13_isLaidOut_229 (by decide) ?_
      refine v_sub (L' := [(4, _), (3, _), (2, _), (1, _), (0, _)]) [0, 2, 3, 4, 5] rfl ?_
      exact hk _ _ sv_us (by rw [List.length_set, List.length_set]; exact hl) ((hE.st (by decide)).st (by decide)) (sv_ls (by rw [List.length_set]; omega)) (MS.kp ((sv_un (by omega)).trans (sv_un (by omega)))) (by obtain ⟨gt, q1, q2⟩ := GT; exact ⟨gt, (sv_un (by omega)).trans ((sv_un (by omega)).trans q1), q2⟩) (by obtain ⟨mt, q1, q2⟩ := MT; exact ⟨mt, (sv_un (by omega)).trans ((sv_un (by omega)).trans q1), q2⟩) (by obtain ⟨f, q1⟩ := A46; exact ⟨f, (sv_un (by omega)).trans ((sv_un (by omega)).trans q1)⟩) (fun a p1 p2 p3_ p4_ p5 => (sv_un p1).trans ((sv_un p1).trans (fr a p1 p2 p3_ p4_ p5)))

theorem jN_n {a c : Nat} (ha : a < 1000) (hc : c < 1000) (e : (nI a).toInt64 = jN (c : Int)) : a = c := by
  rw [show (nI a).toInt64 = jN (a : Int) from iN_64 (x := (a : Int)) (by omega) (by omega), jN_eq (by omega) (by omega) (by omega) (by omega)] at e
  omega
set_option maxHeartbeats 4000000 in
set_option maxRecDepth 100000 in
theorem l_il (G : sv_G) (Qr : Option Value → sv_h → Nat → Prop) (z b nc np pl : Nat) (R : Nat → Bool) (hm p3 p4 sz : Nat → Nat) (ly vo : Nat → Int32) (mp : Nat → mvT) (X Y : Nat → Nat → Int) (hb : sv_h) (fs0 : List Value) (hq0 : mfq_ b nc np pl fs0) (MY : myl_ G hb b nc np pl R hm p3 p4 sz ly vo mp X Y) (r : Nat) (hr : r < 1500) (x0 y0 x1 y1 aI eI m : Int) (tc : Nat) (hx4 : (-200000 ≤ x0 ∧ x0 ≤ 200000) ∧ (-200000 ≤ y0 ∧ y0 ≤ 200000) ∧ (-200000 ≤ x1 ∧ x1 ≤ 200000) ∧ (-200000 ≤ y1 ∧ y1 ≤ 200000)) (FL : List (List Int64)) (hF15 : FL.length ≤ 1500) (f64 : fs0[64]? = some (.int (nI FL.length))) (ft : Nat → Int64) (A59 : ab_J G hb (b + 259) 10500 ft) (hft : ∀ k9 j9, k9 < FL.length → j9 < 7 → ft (7 * k9 + j9) = (FL.getD k9 []).getD j9 0) (hMBw : ∀ w : List Nat, (∀ i, i ∈ w → i < pl) → w.length < 16 → ∀ x y : Int, -200000 ≤ x ∧ x ≤ 200000 → -200000 ≤ y ∧ y ≤ 200000 → (-1000000000 ≤ (mvA (mvW mp w) (x, y)).1 ∧ (mvA (mvW mp w) (x, y)).1 ≤ 1000000000) ∧ (-1000000000 ≤ (mvA (mvW mp w) (x, y)).2 ∧ (mvA (mvW mp w) (x, y)).2 ≤ 1000000000)) (top : Nat) (htop : top < nc) (rk : Nat → Nat) (hrk : ∀ i, i < pl → rk (p4 i) < rk (p3 i)) (SZ : szc_ G hb b nc np pl R hm p3 p4) (htc : tc < nc) (hF : ∀ w, vwy pl p3 p4 top w tc → w.length < 16 → FL.any (fun y => alk y (xrW mp x0 y0 x1 y1 aI eI m (tc : Int) w) 7) = true) (hSk : ∀ i, i < pl → gr_R pl p3 p4 top (p3 i) → oc_n np pl R hm p3 p4 16 (p4 i) = 0 → ∀ f w, lS pl p3 p4 mp (sgl tc (rwI x0 y0 x1 y1 aI eI m (tc : Int))) f (p4 i) w = []) (gt0 : Nat → Int64) (hrow : (gt0 (12 * r + 4) = jN aI ∧ gt0 (12 * r + 5) = jN eI ∧ gt0 (12 * r + 6) = jN m ∧ gt0 (12 * r + 7) = jN (tc : Int)) ∧ gt0 (12 * r + 8) = jN x0 ∧ gt0 (12 * r + 9) = jN y0 ∧ gt0 (12 * r + 10) = jN x1 ∧ gt0 (12 * r + 11) = jN y1) : ∀ (f : Nat) (wy : List Nat) (c : Nat), mcl p4 top wy wy.length = c → vwy pl p3 p4 top wy c → rk c ≤ f → wy.length + f ≤ 15 → (∀ i, i ∈ wy → i < pl) → ∀ (e i : Nat) (VL : List (List Int64)) (h : sv_h) (fs : List Value), i + e = pl → (∀ (h : sv_h) (fs : List Value), h (b + 220) = some (.inr (11, fs)) → fs.length = 71 → fsE [41, 52, 53, 60, 61] fs0 fs → fs[41]? = some (.int (nI (wy).length)) → mst_ G h b (wy) → (∃ gt, ab_J G h (b + 241) 36048 gt ∧ ∀ a, ¬ (12 * r ≤ a ∧ a < 12 * r + 4) → gt a = gt0 a) → (∃ mt, ab_Z G h (b + 260) 1500 mt ∧ ∀ i9, i9 < FL.length → mt i9 = bI ((fun i9 => (VL ++ dR (fwL pl p3 p4 mp (sgl tc (rwI x0 y0 x1 y1 aI eI m (tc : Int))) f c wy) i e).any (fun x => alk (FL.getD i9 []) x 7)) i9)) → (∃ f, ab_I G h (b + 246) 1616 f) → (∀ a, a ≠ b + 220 → a ≠ b + 241 → a ≠ b + 246 → a ≠ b + 247 → a ≠ b + 260 → h a = hb a) → V G mX13_isLaidOut (sv_MQ G mX13_isLaidOut Qr) 173 [(5, .int (nI c)), (4, .int (nI pl)), (3, .int 1), (2, .int (nI (12 * r))), (1, .int (nI top)), (0, .ref (b + 220))] [] h z 0 0) → (wy = [] → ∀ (h : sv_h) (fs : List Value), h (b + 220) = some (.inr (11, fs)) → fs.length = 71 → fsE [41, 52, 53, 60, 61] fs0 fs → fs[41]? = some (.int (nI (wy).length)) → mst_ G h b (wy) → (∃ gt, ab_J G h (b + 241) 36048 gt ∧ ∀ a, ¬ (12 * r ≤ a ∧ a < 12 * r + 4) → gt a = gt0 a) → (∃ mt, ab_Z G h (b + 260) 1500 mt ∧ ∀ i9, i9 < FL.length → mt i9 = bI ((fun i9 => (VL ++ dR (fwL pl p3 p4 mp (sgl tc (rwI x0 y0 x1 y1 aI eI m (tc : Int))) f c wy) i e).any (fun x => alk (FL.getD i9 []) x 7)) i9)) → (∃ f, ab_I G h (b + 246) 1616 f) → (∀ a, a ≠ b + 220 → a ≠ b + 241 → a ≠ b + 246 → a ≠ b + 247 → a ≠ b + 260 → h a = hb a) → V G mX13_isLaidOut (sv_MQ G mX13_isLaidOut Qr) 41 [(4, .int (nI pl)), (3, .int 1), (2, .int (nI (12 * r))), (1, .int (nI top)), (0, .ref (b + 220))] [] h z 0 0) → h (b + 220) = some (.inr (11, fs)) → fs.length = 71 → fsE [41, 52, 53, 60, 61] fs0 fs → fs[41]? = some (.int (nI (wy).length)) → mst_ G h b (wy) → (∃ gt, ab_J G h (b + 241) 36048 gt ∧ ∀ a, ¬ (12 * r ≤ a ∧ a < 12 * r + 4) → gt a = gt0 a) → (∃ mt, ab_Z G h (b + 260) 1500 mt ∧ ∀ i9, i9 < FL.length → mt i9 = bI ((fun i9 => (VL).any (fun x => alk (FL.getD i9 []) x 7)) i9)) → (∃ f, ab_I G h (b + 246) 1616 f) → (∀ a, a ≠ b + 220 → a ≠ b + 241 → a ≠ b + 246 → a ≠ b + 247 → a ≠ b + 260 → h a = hb a) → V G mX13_isLaidOut (sv_MQ G mX13_isLaidOut Qr) 68 [(5, .int (nI c)), (4, .int (nI i)), (3, .int 1), (2, .int (nI (12 * r))), (1, .int (nI top)), (0, .ref (b + 220))] [] h z 0 0 := by
  intro f
  induction f with
  | zero =>
    intro wy c hwc hvw hrc hwf hwp2 e
    induction e with
    | zero =>
      intro i VL h fs hie hk hkx hm9 hl hE f_deep MS GT MT A46 fr
      have hqf := hq0.to (S := [41, 52, 53, 60, 61]) hl hE (by decide)
      have hlen : fs.length = 71 := hl
      obtain ⟨_, _, _, _, _, _, ⟨g6, y6, y6a⟩, ⟨g7, y7, y7a⟩, _, _, _, yB, yC, yD, yE, yF⟩ := id MY
      have w227 : ab_I G h (b + 227) 32 g6 := (fr _ (by omega) (by omega) (by omega) (by omega) (by omega)).trans y6
      have w228 : ab_I G h (b + 228) 32 g7 := (fr _ (by omega) (by omega) (by omega) (by omega) (by omega)).trans y7
      have MYh := MY.kp (fun a p1 p2 => fr a (by omega) (by omega) (by omega) (by omega) (by omega))
      obtain ⟨fst, s1, s2, s3⟩ := id MS
      have f_places := hqf.f_places
      have f_placeIn := hqf.f_placeIn
      have f_placeOf := hqf.f_placeOf
      have f_stack := hqf.f_stack
      have f_sizes := hqf.f_sizes
      have f_told := hqf.f_told
      have w247 : ab_I G h (b + 247) 17 fst := s1
      obtain ⟨fz, z1_, z2_⟩ := id SZ
      have w248 : ab_J G h (b + 248) 16 fz := (fr _ (by omega) (by omega) (by omega) (by omega) (by omega)).trans z1_
      have e9 : i = pl := by omega
      refine v_iload dX13_isLaidOut_68 1 rfl ?_
      refine v_aload_n dX13_isLaidOut_70 rfl 5 rfl ?_
      refine v_getf 10 (ci := 11) (C := RX13) (T := TX13) (N := 71) rfl iwX13_isLaidOut_X13 (Nat.le_of_ble_eq_true rfl) (by decide +kernel) dX13_isLaidOut_71 (by repeat (first | with_reducible assumption | (with_reducible refine sv_us.trans ?_; exact rfl) | with_reducible refine (sv_un (by omega)).trans ?_)) (by repeat (first | with_reducible assumption | (with_reducible refine (sv_ls (by first | omega | (simp only [List.length_set]; omega))).trans ?_; exact rfl) | with_reducible refine (List.getElem?_set_ne (by decide)).trans ?_)) ?_
      refine v_icmp_ge (tgt := 112) dX13_isLaidOut_74 (by decide) (fun c_74 => ?_) (fun c_74 => ?_)
      · refine v_iload dX13_isLaidOut_112 1 rfl ?_
        refine v_aload_n dX13_isLaidOut_114 rfl 5 rfl ?_
        refine v_getf 10 (ci := 11) (C := RX13) (T := TX13) (N := 71) rfl iwX13_isLaidOut_X13 (Nat.le_of_ble_eq_true rfl) (by decide +kernel) dX13_isLaidOut_115 (by repeat (first | with_reducible assumption | (with_reducible refine sv_us.trans ?_; exact rfl) | with_reducible refine (sv_un (by omega)).trans ?_)) (by repeat (first | with_reducible assumption | (with_reducible refine (sv_ls (by first | omega | (simp only [List.length_set]; omega))).trans ?_; exact rfl) | with_reducible refine (List.getElem?_set_ne (by decide)).trans ?_)) ?_
        refine v_icmp_ge (tgt := 173) dX13_isLaidOut_118 (by decide) (fun c_118 => ?_) (fun c_118 => ?_)
        · refine v_sub (L' := [(5, _), (4, _), (3, _), (2, _), (1, _), (0, _)]) [0, 1, 2, 3, 4, 5] rfl ?_
          rw [show nI i = nI pl from congrArg nI e9]
          exact hk h fs hm9 hl hE f_deep MS GT (by rw [show dR (fwL pl p3 p4 mp (sgl tc (rwI x0 y0 x1 y1 aI eI m (tc : Int))) 0 c wy) i 0 = [] from rfl, List.append_nil]; exact MT) A46 fr
        · exact absurd (nI_le (show pl ≤ i by omega) (by omega)) c_118
      · exact absurd (nI_le (show pl ≤ i by omega) (by omega)) c_74
    | succ e ihe =>
      intro i VL h fs hie hk hkx hm9 hl hE f_deep MS GT MT A46 fr
      have hqf := hq0.to (S := [41, 52, 53, 60, 61]) hl hE (by decide)
      have hlen : fs.length = 71 := hl
      obtain ⟨_, _, _, _, _, _, ⟨g6, y6, y6a⟩, ⟨g7, y7, y7a⟩, _, _, _, yB, yC, yD, yE, yF⟩ := id MY
      have w227 : ab_I G h (b + 227) 32 g6 := (fr _ (by omega) (by omega) (by omega) (by omega) (by omega)).trans y6
      have w228 : ab_I G h (b + 228) 32 g7 := (fr _ (by omega) (by omega) (by omega) (by omega) (by omega)).trans y7
      have MYh := MY.kp (fun a p1 p2 => fr a (by omega) (by omega) (by omega) (by omega) (by omega))
      obtain ⟨fst, s1, s2, s3⟩ := id MS
      have f_places := hqf.f_places
      have f_placeIn := hqf.f_placeIn
      have f_placeOf := hqf.f_placeOf
      have f_stack := hqf.f_stack
      have f_sizes := hqf.f_sizes
      have f_told := hqf.f_told
      have w247 : ab_I G h (b + 247) 17 fst := s1
      obtain ⟨fz, z1_, z2_⟩ := id SZ
      have w248 : ab_J G h (b + 248) 16 fz := (fr _ (by omega) (by omega) (by omega) (by omega) (by omega)).trans z1_
      have hi : i < pl := by omega
      have h34 := yF i hi
      have e7 : dR (fwL pl p3 p4 mp (sgl tc (rwI x0 y0 x1 y1 aI eI m (tc : Int))) 0 c wy) i (e + 1) = (fwL pl p3 p4 mp (sgl tc (rwI x0 y0 x1 y1 aI eI m (tc : Int))) 0 c wy) i ++ dR (fwL pl p3 p4 mp (sgl tc (rwI x0 y0 x1 y1 aI eI m (tc : Int))) 0 c wy) (i + 1) e := rfl
      have ncc : c < 16 := (by
        have : c < nc := (by
          rw [← hwc]
          unfold mcl
          split
          · exact htop
          · exact (yF _ (hwp2 _ (getD_mem 0 (by omega)))).2)
        omega)
      refine v_iload dX13_isLaidOut_68 1 rfl ?_
      refine v_aload_n dX13_isLaidOut_70 rfl 5 rfl ?_
      refine v_getf 10 (ci := 11) (C := RX13) (T := TX13) (N := 71) rfl iwX13_isLaidOut_X13 (Nat.le_of_ble_eq_true rfl) (by decide +kernel) dX13_isLaidOut_71 (by repeat (first | with_reducible assumption | (with_reducible refine sv_us.trans ?_; exact rfl) | with_reducible refine (sv_un (by omega)).trans ?_)) (by repeat (first | with_reducible assumption | (with_reducible refine (sv_ls (by first | omega | (simp only [List.length_set]; omega))).trans ?_; exact rfl) | with_reducible refine (List.getElem?_set_ne (by decide)).trans ?_)) ?_
      refine v_icmp_ge (tgt := 112) dX13_isLaidOut_74 (by decide) (fun c_74 => ?_) (fun c_74 => ?_)
      · exact absurd c_74 (nI_ge hi (by omega))
      · refine v_aload_n dX13_isLaidOut_77 rfl 5 rfl ?_
        refine v_getf 11 (ci := 11) (C := RX13) (T := TX13) (N := 71) rfl iwX13_isLaidOut_X13 (Nat.le_of_ble_eq_true rfl) (by decide +kernel) dX13_isLaidOut_78 (by repeat (first | with_reducible assumption | (with_reducible refine sv_us.trans ?_; exact rfl) | with_reducible refine (sv_un (by omega)).trans ?_)) (by repeat (first | with_reducible assumption | (with_reducible refine (sv_ls (by first | omega | (simp only [List.length_set]; omega))).trans ?_; exact rfl) | with_reducible refine (List.getElem?_set_ne (by decide)).trans ?_)) ?_
        refine v_iload dX13_isLaidOut_81 1 rfl ?_
        refine v_ialdS (v := nI (p3 i)) dX13_isLaidOut_83 (by repeat (first | with_reducible assumption | (with_reducible refine sv_us.trans ?_; exact rfl) | with_reducible refine (sv_un (by omega)).trans ?_)) (vp_in_nI (by omega) (by omega)) (by rw [nI_clamp (by omega)]; exact y6a i hi) ?_
        refine v_iload dX13_isLaidOut_84 0 rfl ?_
        refine v_icmp_ne (tgt := 106) dX13_isLaidOut_86 (by decide) (fun c_86 => ?_) (fun c_86 => ?_)
        · refine v_iinc (j := 1) (L' := [(4, _), (5, _), (3, _), (2, _), (1, _), (0, _)]) (v := nI (i + 1)) dX13_isLaidOut_106 rfl (nI_1 _) (Nat.le_of_ble_eq_true rfl) rfl ?_
          refine v_goto (tgt := 68) dX13_isLaidOut_109 (by decide) ?_
          refine v_sub (L' := [(5, _), (4, _), (3, _), (2, _), (1, _), (0, _)]) [1, 0, 2, 3, 4, 5] rfl ?_
          have e8 : (fwL pl p3 p4 mp (sgl tc (rwI x0 y0 x1 y1 aI eI m (tc : Int))) 0 c wy) i = [] := (by
            unfold fwL
            first
              | rw [if_neg (fun e9 => c_86 (congrArg nI e9))]
              | (split
                 · next e5 => exact hSk i hi (by rw [e5]; exact vwy_R wy top c hvw) (oc_zz c_103) _ _
                 · rfl))
          rw [e7, e8, List.nil_append] at hk hkx
          exact ihe (i + 1) VL h fs (by omega) hk hkx hm9 hl hE f_deep MS GT MT A46 fr
        · exact absurd (hrk i hi) (by rw [nI_i (by omega) (by omega) c_86]; omega)
  | succ f ihf =>
    intro wy c hwc hvw hrc hwf hwp2 e
    induction e with
    | zero =>
      intro i VL h fs hie hk hkx hm9 hl hE f_deep MS GT MT A46 fr
      have hqf := hq0.to (S := [41, 52, 53, 60, 61]) hl hE (by decide)
      have hlen : fs.length = 71 := hl
      obtain ⟨_, _, _, _, _, _, ⟨g6, y6, y6a⟩, ⟨g7, y7, y7a⟩, _, _, _, yB, yC, yD, yE, yF⟩ := id MY
      have w227 : ab_I G h (b + 227) 32 g6 := (fr _ (by omega) (by omega) (by omega) (by omega) (by omega)).trans y6
      have w228 : ab_I G h (b + 228) 32 g7 := (fr _ (by omega) (by omega) (by omega) (by omega) (by omega)).trans y7
      have MYh := MY.kp (fun a p1 p2 => fr a (by omega) (by omega) (by omega) (by omega) (by omega))
      obtain ⟨fst, s1, s2, s3⟩ := id MS
      have f_places := hqf.f_places
      have f_placeIn := hqf.f_placeIn
      have f_placeOf := hqf.f_placeOf
      have f_stack := hqf.f_stack
      have f_sizes := hqf.f_sizes
      have f_told := hqf.f_told
      have w247 : ab_I G h (b + 247) 17 fst := s1
      obtain ⟨fz, z1_, z2_⟩ := id SZ
      have w248 : ab_J G h (b + 248) 16 fz := (fr _ (by omega) (by omega) (by omega) (by omega) (by omega)).trans z1_
      have e9 : i = pl := by omega
      refine v_iload dX13_isLaidOut_68 1 rfl ?_
      refine v_aload_n dX13_isLaidOut_70 rfl 5 rfl ?_
      refine v_getf 10 (ci := 11) (C := RX13) (T := TX13) (N := 71) rfl iwX13_isLaidOut_X13 (Nat.le_of_ble_eq_true rfl) (by decide +kernel) dX13_isLaidOut_71 (by repeat (first | with_reducible assumption | (with_reducible refine sv_us.trans ?_; exact rfl) | with_reducible refine (sv_un (by omega)).trans ?_)) (by repeat (first | with_reducible assumption | (with_reducible refine (sv_ls (by first | omega | (simp only [List.length_set]; omega))).trans ?_; exact rfl) | with_reducible refine (List.getElem?_set_ne (by decide)).trans ?_)) ?_
      refine v_icmp_ge (tgt := 112) dX13_isLaidOut_74 (by decide) (fun c_74 => ?_) (fun c_74 => ?_)
      · refine v_iload dX13_isLaidOut_112 1 rfl ?_
        refine v_aload_n dX13_isLaidOut_114 rfl 5 rfl ?_
        refine v_getf 10 (ci := 11) (C := RX13) (T := TX13) (N := 71) rfl iwX13_isLaidOut_X13 (Nat.le_of_ble_eq_true rfl) (by decide +kernel) dX13_isLaidOut_115 (by repeat (first | with_reducible assumption | (with_reducible refine sv_us.trans ?_; exact rfl) | with_reducible refine (sv_un (by omega)).trans ?_)) (by repeat (first | with_reducible assumption | (with_reducible refine (sv_ls (by first | omega | (simp only [List.length_set]; omega))).trans ?_; exact rfl) | with_reducible refine (List.getElem?_set_ne (by decide)).trans ?_)) ?_
        refine v_icmp_ge (tgt := 173) dX13_isLaidOut_118 (by decide) (fun c_118 => ?_) (fun c_118 => ?_)
        · refine v_sub (L' := [(5, _), (4, _), (3, _), (2, _), (1, _), (0, _)]) [0, 1, 2, 3, 4, 5] rfl ?_
          rw [show nI i = nI pl from congrArg nI e9]
          exact hk h fs hm9 hl hE f_deep MS GT (by rw [show dR (fwL pl p3 p4 mp (sgl tc (rwI x0 y0 x1 y1 aI eI m (tc : Int))) (f + 1) c wy) i 0 = [] from rfl, List.append_nil]; exact MT) A46 fr
        · exact absurd (nI_le (show pl ≤ i by omega) (by omega)) c_118
      · exact absurd (nI_le (show pl ≤ i by omega) (by omega)) c_74
    | succ e ihe =>
      intro i VL h fs hie hk hkx hm9 hl hE f_deep MS GT MT A46 fr
      have hqf := hq0.to (S := [41, 52, 53, 60, 61]) hl hE (by decide)
      have hlen : fs.length = 71 := hl
      obtain ⟨_, _, _, _, _, _, ⟨g6, y6, y6a⟩, ⟨g7, y7, y7a⟩, _, _, _, yB, yC, yD, yE, yF⟩ := id MY
      have w227 : ab_I G h (b + 227) 32 g6 := (fr _ (by omega) (by omega) (by omega) (by omega) (by omega)).trans y6
      have w228 : ab_I G h (b + 228) 32 g7 := (fr _ (by omega) (by omega) (by omega) (by omega) (by omega)).trans y7
      have MYh := MY.kp (fun a p1 p2 => fr a (by omega) (by omega) (by omega) (by omega) (by omega))
      obtain ⟨fst, s1, s2, s3⟩ := id MS
      have f_places := hqf.f_places
      have f_placeIn := hqf.f_placeIn
      have f_placeOf := hqf.f_placeOf
      have f_stack := hqf.f_stack
      have f_sizes := hqf.f_sizes
      have f_told := hqf.f_told
      have w247 : ab_I G h (b + 247) 17 fst := s1
      obtain ⟨fz, z1_, z2_⟩ := id SZ
      have w248 : ab_J G h (b + 248) 16 fz := (fr _ (by omega) (by omega) (by omega) (by omega) (by omega)).trans z1_
      have hi : i < pl := by omega
      have h34 := yF i hi
      have e7 : dR (fwL pl p3 p4 mp (sgl tc (rwI x0 y0 x1 y1 aI eI m (tc : Int))) (f + 1) c wy) i (e + 1) = (fwL pl p3 p4 mp (sgl tc (rwI x0 y0 x1 y1 aI eI m (tc : Int))) (f + 1) c wy) i ++ dR (fwL pl p3 p4 mp (sgl tc (rwI x0 y0 x1 y1 aI eI m (tc : Int))) (f + 1) c wy) (i + 1) e := rfl
      have ncc : c < 16 := (by
        have : c < nc := (by
          rw [← hwc]
          unfold mcl
          split
          · exact htop
          · exact (yF _ (hwp2 _ (getD_mem 0 (by omega)))).2)
        omega)
      refine v_iload dX13_isLaidOut_68 1 rfl ?_
      refine v_aload_n dX13_isLaidOut_70 rfl 5 rfl ?_
      refine v_getf 10 (ci := 11) (C := RX13) (T := TX13) (N := 71) rfl iwX13_isLaidOut_X13 (Nat.le_of_ble_eq_true rfl) (by decide +kernel) dX13_isLaidOut_71 (by repeat (first | with_reducible assumption | (with_reducible refine sv_us.trans ?_; exact rfl) | with_reducible refine (sv_un (by omega)).trans ?_)) (by repeat (first | with_reducible assumption | (with_reducible refine (sv_ls (by first | omega | (simp only [List.length_set]; omega))).trans ?_; exact rfl) | with_reducible refine (List.getElem?_set_ne (by decide)).trans ?_)) ?_
      refine v_icmp_ge (tgt := 112) dX13_isLaidOut_74 (by decide) (fun c_74 => ?_) (fun c_74 => ?_)
      · exact absurd c_74 (nI_ge hi (by omega))
      · refine v_aload_n dX13_isLaidOut_77 rfl 5 rfl ?_
        refine v_getf 11 (ci := 11) (C := RX13) (T := TX13) (N := 71) rfl iwX13_isLaidOut_X13 (Nat.le_of_ble_eq_true rfl) (by decide +kernel) dX13_isLaidOut_78 (by repeat (first | with_reducible assumption | (with_reducible refine sv_us.trans ?_; exact rfl) | with_reducible refine (sv_un (by omega)).trans ?_)) (by repeat (first | with_reducible assumption | (with_reducible refine (sv_ls (by first | omega | (simp only [List.length_set]; omega))).trans ?_; exact rfl) | with_reducible refine (List.getElem?_set_ne (by decide)).trans ?_)) ?_
        refine v_iload dX13_isLaidOut_81 1 rfl ?_
        refine v_ialdS (v := nI (p3 i)) dX13_isLaidOut_83 (by repeat (first | with_reducible assumption | (with_reducible refine sv_us.trans ?_; exact rfl) | with_reducible refine (sv_un (by omega)).trans ?_)) (vp_in_nI (by omega) (by omega)) (by rw [nI_clamp (by omega)]; exact y6a i hi) ?_
        refine v_iload dX13_isLaidOut_84 0 rfl ?_
        refine v_icmp_ne (tgt := 106) dX13_isLaidOut_86 (by decide) (fun c_86 => ?_) (fun c_86 => ?_)
        · refine v_iinc (j := 1) (L' := [(4, _), (5, _), (3, _), (2, _), (1, _), (0, _)]) (v := nI (i + 1)) dX13_isLaidOut_106 rfl (nI_1 _) (Nat.le_of_ble_eq_true rfl) rfl ?_
          refine v_goto (tgt := 68) dX13_isLaidOut_109 (by decide) ?_
          refine v_sub (L' := [(5, _), (4, _), (3, _), (2, _), (1, _), (0, _)]) [1, 0, 2, 3, 4, 5] rfl ?_
          have e8 : (fwL pl p3 p4 mp (sgl tc (rwI x0 y0 x1 y1 aI eI m (tc : Int))) (f + 1) c wy) i = [] := (by
            unfold fwL
            first
              | rw [if_neg (fun e9 => c_86 (congrArg nI e9))]
              | (split
                 · next e5 => exact hSk i hi (by rw [e5]; exact vwy_R wy top c hvw) (oc_zz c_103) _ _
                 · rfl))
          rw [e7, e8, List.nil_append] at hk hkx
          exact ihe (i + 1) VL h fs (by omega) hk hkx hm9 hl hE f_deep MS GT MT A46 fr
        · refine v_aload_n dX13_isLaidOut_89 rfl 5 rfl ?_
          refine v_getf 42 (ci := 11) (C := RX13) (T := TX13) (N := 71) rfl iwX13_isLaidOut_X13 (Nat.le_of_ble_eq_true rfl) (by decide +kernel) dX13_isLaidOut_90 (by repeat (first | with_reducible assumption | (with_reducible refine sv_us.trans ?_; exact rfl) | with_reducible refine (sv_un (by omega)).trans ?_)) (by repeat (first | with_reducible assumption | (with_reducible refine (sv_ls (by first | omega | (simp only [List.length_set]; omega))).trans ?_; exact rfl) | with_reducible refine (List.getElem?_set_ne (by decide)).trans ?_)) ?_
          refine v_aload_n dX13_isLaidOut_93 rfl 5 rfl ?_
          refine v_getf 12 (ci := 11) (C := RX13) (T := TX13) (N := 71) rfl iwX13_isLaidOut_X13 (Nat.le_of_ble_eq_true rfl) (by decide +kernel) dX13_isLaidOut_94 (by repeat (first | with_reducible assumption | (with_reducible refine sv_us.trans ?_; exact rfl) | with_reducible refine (sv_un (by omega)).trans ?_)) (by repeat (first | with_reducible assumption | (with_reducible refine (sv_ls (by first | omega | (simp only [List.length_set]; omega))).trans ?_; exact rfl) | with_reducible refine (List.getElem?_set_ne (by decide)).trans ?_)) ?_
          refine v_iload dX13_isLaidOut_97 1 rfl ?_
          refine v_ialdS (v := nI (p4 i)) dX13_isLaidOut_99 (by repeat (first | with_reducible assumption | (with_reducible refine sv_us.trans ?_; exact rfl) | with_reducible refine (sv_un (by omega)).trans ?_)) (vp_in_nI (by omega) (by omega)) (by rw [nI_clamp (by omega)]; exact y7a i hi) ?_
          refine v_laldS (v := lN (min 100000 (oc_n np pl R hm p3 p4 16 (p4 i)))) dX13_isLaidOut_100 (by repeat (first | with_reducible assumption | (with_reducible refine sv_us.trans ?_; exact rfl) | with_reducible refine (sv_un (by omega)).trans ?_)) (vp_in_nI (by omega) (by omega)) (by rw [nI_clamp (by omega)]; exact z2_ _ h34.2) ?_
          refine v_lconst (v := 0) dX13_isLaidOut_101 (by decide) ?_
          refine v_lcmp_ne (tgt := 112) dX13_isLaidOut_102 dX13_isLaidOut_103 (by decide) (fun c_103 => ?_) (fun c_103 => ?_)
          · refine v_iload dX13_isLaidOut_112 1 rfl ?_
            refine v_aload_n dX13_isLaidOut_114 rfl 5 rfl ?_
            refine v_getf 10 (ci := 11) (C := RX13) (T := TX13) (N := 71) rfl iwX13_isLaidOut_X13 (Nat.le_of_ble_eq_true rfl) (by decide +kernel) dX13_isLaidOut_115 (by repeat (first | with_reducible assumption | (with_reducible refine sv_us.trans ?_; exact rfl) | with_reducible refine (sv_un (by omega)).trans ?_)) (by repeat (first | with_reducible assumption | (with_reducible refine (sv_ls (by first | omega | (simp only [List.length_set]; omega))).trans ?_; exact rfl) | with_reducible refine (List.getElem?_set_ne (by decide)).trans ?_)) ?_
            refine v_icmp_ge (tgt := 173) dX13_isLaidOut_118 (by decide) (fun c_118 => ?_) (fun c_118 => ?_)
            · exact absurd c_118 (nI_ge hi (by omega))
            · have e53 : p3 i = c := nI_i (by omega) (by omega) c_86
              refine v_aload_n dX13_isLaidOut_121 rfl 5 rfl ?_
              refine v_getf 40 (ci := 11) (C := RX13) (T := TX13) (N := 71) rfl iwX13_isLaidOut_X13 (Nat.le_of_ble_eq_true rfl) (by decide +kernel) dX13_isLaidOut_122 (by repeat (first | with_reducible assumption | (with_reducible refine sv_us.trans ?_; exact rfl) | with_reducible refine (sv_un (by omega)).trans ?_)) (by repeat (first | with_reducible assumption | (with_reducible refine (sv_ls (by first | omega | (simp only [List.length_set]; omega))).trans ?_; exact rfl) | with_reducible refine (List.getElem?_set_ne (by decide)).trans ?_)) ?_
              refine v_aload_n dX13_isLaidOut_125 rfl 5 rfl ?_
              refine v_getf 41 (ci := 11) (C := RX13) (T := TX13) (N := 71) rfl iwX13_isLaidOut_X13 (Nat.le_of_ble_eq_true rfl) (by decide +kernel) dX13_isLaidOut_126 (by repeat (first | with_reducible assumption | (with_reducible refine sv_us.trans ?_; exact rfl) | with_reducible refine (sv_un (by omega)).trans ?_)) (by repeat (first | with_reducible assumption | (with_reducible refine (sv_ls (by first | omega | (simp only [List.length_set]; omega))).trans ?_; exact rfl) | with_reducible refine (List.getElem?_set_ne (by decide)).trans ?_)) ?_
              refine v_iload dX13_isLaidOut_129 1 rfl ?_
              refine v_iast dX13_isLaidOut_131 (by repeat (first | with_reducible assumption | (with_reducible refine sv_us.trans ?_; exact rfl) | with_reducible refine (sv_un (by omega)).trans ?_)) (vp_in_nI (by omega) (by omega)) ?_
              refine v_aload_n dX13_isLaidOut_132 rfl 5 rfl ?_
              refine v_dup dX13_isLaidOut_133 rfl ?_
              refine v_getf 41 (ci := 11) (C := RX13) (T := TX13) (N := 71) rfl iwX13_isLaidOut_X13 (Nat.le_of_ble_eq_true rfl) (by decide +kernel) dX13_isLaidOut_134 (by repeat (first | with_reducible assumption | (with_reducible refine sv_us.trans ?_; exact rfl) | with_reducible refine (sv_un (by omega)).trans ?_)) (by repeat (first | with_reducible assumption | (with_reducible refine (sv_ls (by first | omega | (simp only [List.length_set]; omega))).trans ?_; exact rfl) | with_reducible refine (List.getElem?_set_ne (by decide)).trans ?_)) ?_
              refine v_iconst (v := 1) dX13_isLaidOut_137 (by decide) ?_
              refine v_iadd dX13_isLaidOut_138 ?_
              rw [show nI wy.length + 1 = nI (wy ++ [i]).length from by rw [List.length_append]; exact nI_1 _]
              refine v_putf 41 (fs' := _) (ci := 11) (C := RX13) (T := TX13) (N := 71) (ty := .int) rfl iwX13_isLaidOut_X13 tyX13 tyX13_ok nmX13 (Nat.le_of_ble_eq_true rfl) (by decide +kernel) rfl rfl dX13_isLaidOut_139 rfl rfl (by repeat (first | with_reducible assumption | (with_reducible refine sv_us.trans ?_; exact rfl) | with_reducible refine (sv_un (by omega)).trans ?_)) (by first | omega | (simp only [List.length_set]; omega)) rfl ?_
              rw [nI_clamp (show wy.length < 2 ^ 31 by omega)]
              have hq2 := hq0.to (S := [41, 52, 53, 60, 61]) (fs1 := (fs.set 41 (.int (nI (wy ++ [i]).length)))) (by rw [List.length_set]; exact hl) (hE.st (by decide)) (by decide)
              have E2 : fsE [41, 52, 53, 60, 61] fs0 (fs.set 41 (.int (nI (wy ++ [i]).length))) := hE.st (by decide)
              have hlen2 : (fs.set 41 (.int (nI (wy ++ [i]).length))).length = 71 := (by rw [List.length_set]; exact hl)
              have MS2 : mst_ G (va_up (va_up h (b + 247) (some (.inl (G.2.2.1 0, 17, .inl (upd fst wy.length (nI i)))))) (b + 220) (some (.inr (11, fs.set 41 (.int (nI (wy ++ [i]).length)))))) b (wy ++ [i]) := mst_s s3 ((sv_un (by omega)).trans sv_us) (by omega)
              have MY2 : myl_ G (va_up (va_up h (b + 247) (some (.inl (G.2.2.1 0, 17, .inl (upd fst wy.length (nI i)))))) (b + 220) (some (.inr (11, fs.set 41 (.int (nI (wy ++ [i]).length)))))) b nc np pl R hm p3 p4 sz ly vo mp X Y := MYh.kp (fun a p1 p2 => (sv_un (by omega)).trans (sv_un (by omega)))
              have d2 : (fs.set 41 (.int (nI (wy ++ [i]).length)))[41]? = some (.int (nI (wy ++ [i]).length)) := sv_ls (by omega)
              have wp2 : ∀ j, j ∈ wy ++ [i] → j < pl := fun j hj => (by
                rcases List.mem_append.mp hj with q | q
                · exact hwp2 j q
                · rw [List.mem_singleton.mp q]; exact hi)
              have hl2 : (wy ++ [i]).length + f ≤ 15 := (by rw [List.length_append]; show wy.length + 1 + f ≤ 15; omega)
              have hv2 : vwy pl p3 p4 top (wy ++ [i]) (p4 i) := vwy_s wy top c i hvw hi e53
              have hwm : mcl p4 top (wy ++ [i]) (wy ++ [i]).length = p4 i := mcl_a p4 top wy i
              have hpos : 0 < (wy ++ [i]).length := (by rw [List.length_append]; exact Nat.succ_pos _)
              have e8 : (fwL pl p3 p4 mp (sgl tc (rwI x0 y0 x1 y1 aI eI m (tc : Int))) (f + 1) c wy) i = ((sgl tc (rwI x0 y0 x1 y1 aI eI m (tc : Int))) (p4 i)).map (mvR (mvW mp (wy ++ [i]))) ++ dR (fwL pl p3 p4 mp (sgl tc (rwI x0 y0 x1 y1 aI eI m (tc : Int))) f (p4 i) (wy ++ [i])) 0 pl := (by
                unfold fwL
                rw [if_pos e53]
                exact lS_fw pl p3 p4 mp (sgl tc (rwI x0 y0 x1 y1 aI eI m (tc : Int))) f (p4 i) (wy ++ [i]))
              obtain ⟨gt9, GT1, GT2⟩ := id GT
              obtain ⟨mt9, MT1, MT2⟩ := id MT
              obtain ⟨f46, v46⟩ := id A46
              have GTr : (gt9 (12 * r + 4) = jN aI ∧ gt9 (12 * r + 5) = jN eI ∧ gt9 (12 * r + 6) = jN m ∧ gt9 (12 * r + 7) = jN (tc : Int)) ∧ gt9 (12 * r + 8) = jN x0 ∧ gt9 (12 * r + 9) = jN y0 ∧ gt9 (12 * r + 10) = jN x1 ∧ gt9 (12 * r + 11) = jN y1 := (by
                obtain ⟨⟨r4, r5, r6, r7⟩, r8, r9, rA, rB⟩ := hrow
                exact ⟨⟨(GT2 _ (by omega)).trans r4, (GT2 _ (by omega)).trans r5, (GT2 _ (by omega)).trans r6, (GT2 _ (by omega)).trans r7⟩, (GT2 _ (by omega)).trans r8, (GT2 _ (by omega)).trans r9, (GT2 _ (by omega)).trans rA, (GT2 _ (by omega)).trans rB⟩)
              have x241 : ab_J G (va_up (va_up h (b + 247) (some (.inl (G.2.2.1 0, 17, .inl (upd fst wy.length (nI i)))))) (b + 220) (some (.inr (11, fs.set 41 (.int (nI (wy ++ [i]).length)))))) (b + 241) 36048 gt9 := (sv_un (by omega)).trans ((sv_un (by omega)).trans GT1)
              have fr2 : ∀ a, a ≠ b + 220 → a ≠ b + 241 → a ≠ b + 246 → a ≠ b + 247 → a ≠ b + 260 → (va_up (va_up h (b + 247) (some (.inl (G.2.2.1 0, 17, .inl (upd fst wy.length (nI i)))))) (b + 220) (some (.inr (11, fs.set 41 (.int (nI (wy ++ [i]).length)))))) a = hb a := fun a p1 p2 p3_ p4_ p5 => (sv_un p1).trans ((sv_un p4_).trans (fr a p1 p2 p3_ p4_ p5))
              have NEXT : ∀ (V2 : List (List Int64)) (h1 : sv_h) (fs1 : List Value), V2 = ((sgl tc (rwI x0 y0 x1 y1 aI eI m (tc : Int))) (p4 i)).map (mvR (mvW mp (wy ++ [i]))) → h1 (b + 220) = some (.inr (11, fs1)) → fs1.length = 71 → fsE [41, 52, 53, 60, 61] fs0 fs1 → fs1[41]? = some (.int (nI (wy ++ [i]).length)) → mst_ G h1 b (wy ++ [i]) → (∃ gt, ab_J G h1 (b + 241) 36048 gt ∧ ∀ a, ¬ (12 * r ≤ a ∧ a < 12 * r + 4) → gt a = gt0 a) → (∃ mt, ab_Z G h1 (b + 260) 1500 mt ∧ ∀ i9, i9 < FL.length → mt i9 = bI ((fun i9 => (VL ++ V2).any (fun x => alk (FL.getD i9 []) x 7)) i9)) → (∃ f, ab_I G h1 (b + 246) 1616 f) → (∀ a, a ≠ b + 220 → a ≠ b + 241 → a ≠ b + 246 → a ≠ b + 247 → a ≠ b + 260 → h1 a = hb a) → V G mX13_isLaidOut (sv_MQ G mX13_isLaidOut Qr) 41 [(4, .int (nI 0)), (3, .int 1), (2, .int (nI (12 * r))), (1, .int (nI top)), (0, .ref (b + 220))] [] h1 z 0 0 := (by
                intro V2 h1 fs1 hV b1 b2 b3 b4 b5 b6 b7 b8 b9
                refine t_il41 G Qr z b nc np pl R hm p3 p4 sz ly vo mp X Y hb fs0 hq0 MY r hr x0 y0 x1 y1 aI eI m tc hx4 FL hF15 f64 ft A59 hft hMBw top htop rk hrk SZ htc hF hSk gt0 hrow (wy ++ [i]) wp2 0 (Nat.zero_le _) (Or.inl hpos) _ h1 fs1 b1 b2 b3 b4 b5 b6 b7 b8 b9 ?_
                rw [hwm]
                refine ihf (wy ++ [i]) (p4 i) hwm hv2 (by have := hrk i hi; rw [e53] at this; omega) hl2 wp2 pl 0 _ h1 fs1 (Nat.zero_add _) ?_ (fun e9 => absurd e9 (by intro e8_; rw [e8_] at hpos; exact absurd hpos (by decide))) b1 b2 b3 b4 b5 b6 b7 b8 b9
                intro h3 fs3 a1 a2 a3 a4 a5 a6 a7 a8 a9
                refine t_il173 G Qr z b nc np pl R hm p3 p4 sz ly vo mp X Y hb fs0 hq0 MY r hr x0 y0 x1 y1 aI eI m tc hx4 FL hF15 f64 ft A59 hft hMBw top htop rk hrk SZ htc hF hSk gt0 hrow wy (p4 i) pl i hi _ h3 fs3 a1 a2 a3 a4 a5 a6 a7 a8 a9 ?_
                intro h4 fs4 d1_ d2_ d3_ d4_ d5_ d6_ d7_ d8_ d9_
                have e6 : (VL ++ V2) ++ dR (fwL pl p3 p4 mp (sgl tc (rwI x0 y0 x1 y1 aI eI m (tc : Int))) f (p4 i) (wy ++ [i])) 0 pl = VL ++ (fwL pl p3 p4 mp (sgl tc (rwI x0 y0 x1 y1 aI eI m (tc : Int))) (f + 1) c wy) i := (by rw [e8, hV, List.append_assoc])
                rw [e6] at d7_
                have hk2 := hk
                have hkx2 := hkx
                rw [e7, ← List.append_assoc] at hk2 hkx2
                by_cases hex : 0 < wy.length ∨ i + 1 < pl
                · refine t_il41 G Qr z b nc np pl R hm p3 p4 sz ly vo mp X Y hb fs0 hq0 MY r hr x0 y0 x1 y1 aI eI m tc hx4 FL hF15 f64 ft A59 hft hMBw top htop rk hrk SZ htc hF hSk gt0 hrow wy hwp2 (i + 1) (by omega) hex _ h4 fs4 d1_ d2_ d3_ d4_ d5_ d6_ d7_ d8_ d9_ ?_
                  rw [hwc]
                  exact ihe (i + 1) (VL ++ (fwL pl p3 p4 mp (sgl tc (rwI x0 y0 x1 y1 aI eI m (tc : Int))) (f + 1) c wy) i) h4 fs4 (by omega) hk2 hkx2 d1_ d2_ d3_ d4_ d5_ d6_ d7_ d8_ d9_
                · have e5 : wy = [] := List.eq_nil_of_length_eq_zero (by omega)
                  have e4 : e = 0 := by omega
                  have e3 : i + 1 = pl := by omega
                  rw [e3]
                  refine hkx2 e5 h4 fs4 d1_ d2_ d3_ d4_ d5_ d6_ ?_ d8_ d9_
                  rw [e4, show dR (fwL pl p3 p4 mp (sgl tc (rwI x0 y0 x1 y1 aI eI m (tc : Int))) (f + 1) c wy) (i + 1) 0 = [] from rfl, List.append_nil]; exact d7_)
              refine v_iconst (v := 0) dX13_isLaidOut_142 (by decide) ?_
              refine v_istore (L' := [(4, _), (5, _), (3, _), (2, _), (1, _), (0, _)]) dX13_isLaidOut_143 (Nat.le_of_ble_eq_true rfl) rfl ?_
              refine v_aload_n dX13_isLaidOut_145 rfl 5 rfl ?_
              refine v_iload_n dX13_isLaidOut_146 rfl 4 rfl ?_
              refine v_callVq (M' := mX13_cellAt) (n := 1) (As := [_]) (ci := 11) (r := (RX13, TX13, 71)) gX13_isLaidOut_X13_cellAt rfl (by decide +kernel) ⟨(Nat.le_of_ble_eq_true rfl), (Nat.le_of_ble_eq_true rfl)⟩ rfl rfl dX13_isLaidOut_147 rfl ⟨(Nat.le_of_ble_eq_true rfl), (Nat.le_of_ble_eq_true rfl)⟩ (Nat.le_of_ble_eq_true rfl) (by repeat (first | with_reducible assumption | (with_reducible refine sv_us.trans ?_; exact rfl) | with_reducible refine (sv_un (by omega)).trans ?_)) rfl (m_cellAt G _ b nc np pl R hm p3 p4 sz ly vo mp X Y (va_up (va_up h (b + 247) (some (.inl (G.2.2.1 0, 17, .inl (upd fst wy.length (nI i)))))) (b + 220) (some (.inr (11, fs.set 41 (.int (nI (wy ++ [i]).length)))))) (fs.set 41 (.int (nI (wy ++ [i]).length))) hq2 MY2 _ MS2 d2 wp2 sv_us top) (fun v9 h9 y9 hq => v_pq hq ?_)
              rw [hwm]
              refine v_i2l dX13_isLaidOut_150 rfl ?_
              refine v_aload_n dX13_isLaidOut_151 rfl 5 rfl ?_
              refine v_getf 27 (ci := 11) (C := RX13) (T := TX13) (N := 71) rfl iwX13_isLaidOut_X13 (Nat.le_of_ble_eq_true rfl) (by decide +kernel) dX13_isLaidOut_152 (by repeat (first | with_reducible assumption | (with_reducible refine sv_us.trans ?_; exact rfl) | with_reducible refine (sv_un (by omega)).trans ?_)) (by repeat (first | with_reducible assumption | (with_reducible refine (sv_ls (by first | omega | (simp only [List.length_set]; omega))).trans ?_; exact rfl) | with_reducible refine (List.getElem?_set_ne (by decide)).trans ?_)) ?_
              refine v_iload_n dX13_isLaidOut_155 rfl 3 rfl ?_
              refine v_bipush (v := 7) dX13_isLaidOut_156 (by decide) ?_
              refine v_iadd dX13_isLaidOut_158 ?_
              rw [sv_p7]
              refine v_laldS (v := jN (tc : Int)) dX13_isLaidOut_159 (by repeat (first | with_reducible assumption | (with_reducible refine sv_us.trans ?_; exact rfl) | with_reducible refine (sv_un (by omega)).trans ?_)) (vp_in_nI (by omega) (by omega)) (by rw [nI_clamp (by omega)]; exact GTr.1.2.2.2) ?_
              refine v_lcmp_ne (tgt := 229) dX13_isLaidOut_160 dX13_isLaidOut_161 (by decide) (fun c_161 => ?_) (fun c_161 => ?_)
              · refine v_goto (tgt := 41) dX13_isLaidOut_229 (by decide) ?_
                refine v_sub (L' := [(4, _), (3, _), (2, _), (1, _), (0, _)]) [0, 2, 3, 4, 5] rfl ?_
                first
                  | (have c9 := e164
                     refine NEXT [(xrW mp x0 y0 x1 y1 aI eI m (tc : Int) (wy ++ [i]))] h1 fs1 (by unfold sgl; rw [if_pos e164]; rfl) u1 u2 (E2.tr (u3.up (by decide))) ((u3 41 (by decide)).trans d2) (MS2.kp (u8 _ (by omega) (by omega) (by omega) (by omega))) ⟨gt1, u4, fun a p => (u5 a p).trans (GT2 a p)⟩ u6 u7 (fun a p1 p2 p3_ p4_ p5 => (u8 a p1 p2 p3_ p5).trans (fr2 a p1 p2 p3_ p4_ p5)))
                  | (have e164 : ¬ p4 i = tc := fun q => c_161 (by rw [q]; exact iN_64 (x := (tc : Int)) (by omega) (by omega))
                     refine NEXT [] _ _ (by unfold sgl; rw [if_neg e164]; rfl) sv_us hlen2 E2 d2 MS2 ⟨gt9, x241, GT2⟩ ⟨mt9, ((sv_un (by omega)).trans (sv_un (by omega))).trans MT1, by rw [List.append_nil]; exact MT2⟩ ⟨f46, ((sv_un (by omega)).trans (sv_un (by omega))).trans v46⟩ fr2)
              · refine v_aload_n dX13_isLaidOut_164 rfl 5 rfl ?_
                refine v_iload_n dX13_isLaidOut_165 rfl 3 rfl ?_
                refine v_callVq (M' := mX13_isThere) (n := 1) (As := [_]) (ci := 11) (r := (RX13, TX13, 71)) gX13_isLaidOut_X13_isThere rfl (by decide +kernel) ⟨(Nat.le_of_ble_eq_true rfl), (Nat.le_of_ble_eq_true rfl)⟩ rfl rfl dX13_isLaidOut_166 rfl ⟨(Nat.le_of_ble_eq_true rfl), (Nat.le_of_ble_eq_true rfl)⟩ (Nat.le_of_ble_eq_true rfl) (by repeat (first | with_reducible assumption | (with_reducible refine sv_us.trans ?_; exact rfl) | with_reducible refine (sv_un (by omega)).trans ?_)) rfl (m_isThere G _ b nc np pl R hm p3 p4 sz ly vo mp X Y hb fs0 hq0 MY r hr x0 y0 x1 y1 aI eI m tc hx4 FL hF15 f64 ft A59 hft hMBw (wy ++ [i]) wp2 (by omega) (va_up (va_up h (b + 247) (some (.inl (G.2.2.1 0, 17, .inl (upd fst wy.length (nI i)))))) (b + 220) (some (.inr (11, fs.set 41 (.int (nI (wy ++ [i]).length)))))) (fs.set 41 (.int (nI (wy ++ [i]).length))) sv_us hq2 MY2 ((List.getElem?_set_ne (by decide)).trans ((hE 64 (by decide)).trans f64)) (((sv_un (by omega)).trans (sv_un (by omega))).trans ((fr _ (by omega) (by omega) (by omega) (by omega) (by omega)).trans A59)) d2 MS2 ⟨f46, ((sv_un (by omega)).trans (sv_un (by omega))).trans v46⟩ gt9 x241 GTr VL mt9 (((sv_un (by omega)).trans (sv_un (by omega))).trans MT1) MT2) (fun v9 h1 z1 hq9 => ?_)
                obtain ⟨rfl, rfl, fs1, u1, u2, u3, ⟨gt1, u4, u5⟩, u6, u7, u8⟩ := hq9
                have e164 : p4 i = tc := jN_n (by omega) (by omega) c_161
                have fnd := hF (wy ++ [i]) (by rw [← e164]; exact hv2) (by omega)
                rw [fnd]
                refine v_istore_n (L' := [(3, _), (4, _), (5, _), (2, _), (1, _), (0, _)]) dX13_isLaidOut_169 rfl (Nat.le_of_ble_eq_true rfl) rfl ?_
                refine v_goto (tgt := 229) dX13_isLaidOut_170 (by decide) ?_
                refine v_goto (tgt := 41) dX13_isLaidOut_229 (by decide) ?_
                refine v_sub (L' := [(4, _), (3, _), (2, _), (1, _), (0, _)]) [1, 0, 3, 4, 5] rfl ?_
                first
                  | (have c9 := e164
                     refine NEXT [(xrW mp x0 y0 x1 y1 aI eI m (tc : Int) (wy ++ [i]))] h1 fs1 (by unfold sgl; rw [if_pos e164]; rfl) u1 u2 (E2.tr (u3.up (by decide))) ((u3 41 (by decide)).trans d2) (MS2.kp (u8 _ (by omega) (by omega) (by omega) (by omega))) ⟨gt1, u4, fun a p => (u5 a p).trans (GT2 a p)⟩ u6 u7 (fun a p1 p2 p3_ p4_ p5 => (u8 a p1 p2 p3_ p5).trans (fr2 a p1 p2 p3_ p4_ p5)))
                  | (have e164 : ¬ p4 i = tc := fun q => c_161 (by rw [q]; exact iN_64 (x := (tc : Int)) (by omega) (by omega))
                     refine NEXT [] _ _ (by unfold sgl; rw [if_neg e164]; rfl) sv_us hlen2 E2 d2 MS2 ⟨gt9, x241, GT2⟩ ⟨mt9, ((sv_un (by omega)).trans (sv_un (by omega))).trans MT1, by rw [List.append_nil]; exact MT2⟩ ⟨f46, ((sv_un (by omega)).trans (sv_un (by omega))).trans v46⟩ fr2)
          · refine v_iinc (j := 1) (L' := [(4, _), (5, _), (3, _), (2, _), (1, _), (0, _)]) (v := nI (i + 1)) dX13_isLaidOut_106 rfl (nI_1 _) (Nat.le_of_ble_eq_true rfl) rfl ?_
            refine v_goto (tgt := 68) dX13_isLaidOut_109 (by decide) ?_
            refine v_sub (L' := [(5, _), (4, _), (3, _), (2, _), (1, _), (0, _)]) [1, 0, 2, 3, 4, 5] rfl ?_
            have e8 : (fwL pl p3 p4 mp (sgl tc (rwI x0 y0 x1 y1 aI eI m (tc : Int))) (f + 1) c wy) i = [] := (by
              unfold fwL
              first
                | rw [if_neg (fun e9 => c_86 (congrArg nI e9))]
                | (split
                   · next e5 => exact hSk i hi (by rw [e5]; exact vwy_R wy top c hvw) (oc_zz c_103) _ _
                   · rfl))
            rw [e7, e8, List.nil_append] at hk hkx
            exact ihe (i + 1) VL h fs (by omega) hk hkx hm9 hl hE f_deep MS GT MT A46 fr

