theorem iwX1_across_X1 : ∀ w ∈ wsX10, w ∈ wsX1_across := by decide +kernel
theorem iwX1_across_X7 : ∀ w ∈ wsX70, w ∈ wsX1_across := by decide +kernel
theorem iwX1_across_X8 : ∀ w ∈ wsX80, w ∈ wsX1_across := by decide +kernel
set_option maxRecDepth 20000 in
theorem ggX1_across_X8_end : GoodIn wsX1_across wsX8_end := goodIn_r _ [21, 22, 71, 72, 73, 74, 75, 76, 77, 78, 79, 80, 81, 82, 83, 84] (by decide +kernel) (by decide +kernel)
set_option maxRecDepth 20000 in
theorem gX1_across_X8_end : GoodIn wsX1_across (wsV RX1 201 RX8 yX8_end wsX8_end) := goodIn_app (goodIn_of _ (by decide +kernel)) ggX1_across_X8_end
set_option maxRecDepth 20000 in
theorem ggX1_across_X8_begin : GoodIn wsX1_across wsX8_begin := goodIn_r _ [26, 22, 71, 72, 73, 74, 75, 76, 77, 78, 79, 80, 81, 82, 83, 84] (by decide +kernel) (by decide +kernel)
set_option maxRecDepth 20000 in
theorem gX1_across_X8_begin : GoodIn wsX1_across (wsV RX1 198 RX8 yX8_begin wsX8_begin) := goodIn_app (goodIn_of _ (by decide +kernel)) ggX1_across_X8_begin
set_option maxRecDepth 20000 in
theorem ggX1_across_X7_leastRun : GoodIn wsX1_across wsX7_leastRun := goodIn_r _ [31, 32, 63, 64, 65, 66, 67, 68, 69, 70] (by decide +kernel) (by decide +kernel)
set_option maxRecDepth 20000 in
theorem gX1_across_X7_leastRun : GoodIn wsX1_across (wsV RX1 266 RX7 yX7_leastRun wsX7_leastRun) := goodIn_app (goodIn_of _ (by decide +kernel)) ggX1_across_X7_leastRun
set_option maxRecDepth 20000 in
theorem ggX1_across_X1_areEnds : GoodIn wsX1_across wsX1_areEnds := goodIn_r _ [37, 4, 12, 7, 13, 14, 10, 15, 1, 38, 57, 58, 59, 60, 61, 62, 71, 72, 73, 74, 75, 76, 77, 78, 79, 80, 81, 82, 83, 84, 63, 64, 65, 66, 67, 68, 69, 70] (by decide +kernel) (by decide +kernel)
set_option maxRecDepth 20000 in
theorem gX1_across_X1_areEnds : GoodIn wsX1_across (wsV RX1 269 RX1 yX1_areEnds wsX1_areEnds) := goodIn_app (goodIn_of _ (by decide +kernel)) ggX1_across_X1_areEnds
set_option maxRecDepth 20000 in
theorem ggX1_across_X1_isUpright : GoodIn wsX1_across wsX1_isUpright := goodIn_r _ [41] (by decide +kernel) (by decide +kernel)
set_option maxRecDepth 20000 in
theorem ggX1_across_X10_add : GoodIn wsX1_across wsX10_add := goodIn_r _ [46, 47, 48, 49, 50, 51, 52, 53, 54, 55, 56, 85, 86, 87, 88, 89, 90, 91] (by decide +kernel) (by decide +kernel)
set_option maxRecDepth 20000 in
theorem gX1_across_X10_add : GoodIn wsX1_across (wsV RX1 154 RX10 yX10_add wsX10_add) := goodIn_app (goodIn_of _ (by decide +kernel)) ggX1_across_X10_add
theorem dX1_across_0 : decode cX1_across 0 = .ok (.aload_n 0, 1) := by decide +kernel
theorem dX1_across_1 : decode cX1_across 1 = .ok (.getfield 41, 3) := by decide +kernel
theorem dX1_across_4 : decode cX1_across 4 = .ok (.getfield 54, 3) := by decide +kernel
theorem dX1_across_7 : decode cX1_across 7 = .ok (.getstatic 257, 3) := by decide +kernel
theorem dX1_across_10 : decode cX1_across 10 = .ok (.if_acmp .ne 7, 3) := by decide +kernel
theorem dX1_across_13 : decode cX1_across 13 = .ok (.iconst 0, 1) := by decide +kernel
theorem dX1_across_14 : decode cX1_across 14 = .ok (.goto 4, 3) := by decide +kernel
theorem dX1_across_17 : decode cX1_across 17 = .ok (.iconst 1, 1) := by decide +kernel
theorem dX1_across_18 : decode cX1_across 18 = .ok (.istore 7, 2) := by decide +kernel
theorem dX1_across_20 : decode cX1_across 20 = .ok (.aload_n 0, 1) := by decide +kernel
theorem dX1_across_21 : decode cX1_across 21 = .ok (.getfield 30, 3) := by decide +kernel
theorem dX1_across_24 : decode cX1_across 24 = .ok (.iload_n 1, 1) := by decide +kernel
theorem dX1_across_25 : decode cX1_across 25 = .ok (.iload_n 2, 1) := by decide +kernel
theorem dX1_across_26 : decode cX1_across 26 = .ok (.invokevirtual 201, 3) := by decide +kernel
theorem dX1_across_29 : decode cX1_across 29 = .ok (.istore 8, 2) := by decide +kernel
theorem dX1_across_31 : decode cX1_across 31 = .ok (.aload_n 0, 1) := by decide +kernel
theorem dX1_across_32 : decode cX1_across 32 = .ok (.getfield 30, 3) := by decide +kernel
theorem dX1_across_35 : decode cX1_across 35 = .ok (.iload_n 3, 1) := by decide +kernel
theorem dX1_across_36 : decode cX1_across 36 = .ok (.iload 4, 2) := by decide +kernel
theorem dX1_across_38 : decode cX1_across 38 = .ok (.invokevirtual 201, 3) := by decide +kernel
theorem dX1_across_41 : decode cX1_across 41 = .ok (.istore 9, 2) := by decide +kernel
theorem dX1_across_43 : decode cX1_across 43 = .ok (.aload_n 0, 1) := by decide +kernel
theorem dX1_across_44 : decode cX1_across 44 = .ok (.getfield 30, 3) := by decide +kernel
theorem dX1_across_47 : decode cX1_across 47 = .ok (.iload_n 1, 1) := by decide +kernel
theorem dX1_across_48 : decode cX1_across 48 = .ok (.iload_n 2, 1) := by decide +kernel
theorem dX1_across_49 : decode cX1_across 49 = .ok (.invokevirtual 198, 3) := by decide +kernel
theorem dX1_across_52 : decode cX1_across 52 = .ok (.istore 10, 2) := by decide +kernel
theorem dX1_across_54 : decode cX1_across 54 = .ok (.iload 10, 2) := by decide +kernel
theorem dX1_across_56 : decode cX1_across 56 = .ok (.iload 8, 2) := by decide +kernel
theorem dX1_across_58 : decode cX1_across 58 = .ok (.if_icmp .ge 244, 3) := by decide +kernel
theorem dX1_across_61 : decode cX1_across 61 = .ok (.aload_n 0, 1) := by decide +kernel
theorem dX1_across_62 : decode cX1_across 62 = .ok (.getfield 30, 3) := by decide +kernel
theorem dX1_across_65 : decode cX1_across 65 = .ok (.iload_n 3, 1) := by decide +kernel
theorem dX1_across_66 : decode cX1_across 66 = .ok (.iload 4, 2) := by decide +kernel
theorem dX1_across_68 : decode cX1_across 68 = .ok (.invokevirtual 198, 3) := by decide +kernel
theorem dX1_across_71 : decode cX1_across 71 = .ok (.istore 11, 2) := by decide +kernel
theorem dX1_across_73 : decode cX1_across 73 = .ok (.iload 11, 2) := by decide +kernel
theorem dX1_across_75 : decode cX1_across 75 = .ok (.iload 9, 2) := by decide +kernel
theorem dX1_across_77 : decode cX1_across 77 = .ok (.if_icmp .ge 219, 3) := by decide +kernel
theorem dX1_across_80 : decode cX1_across 80 = .ok (.aload_n 0, 1) := by decide +kernel
theorem dX1_across_81 : decode cX1_across 81 = .ok (.getfield 30, 3) := by decide +kernel
theorem dX1_across_84 : decode cX1_across 84 = .ok (.getfield 204, 3) := by decide +kernel
theorem dX1_across_87 : decode cX1_across 87 = .ok (.iload 11, 2) := by decide +kernel
theorem dX1_across_89 : decode cX1_across 89 = .ok (.iaload, 1) := by decide +kernel
theorem dX1_across_90 : decode cX1_across 90 = .ok (.aload_n 0, 1) := by decide +kernel
theorem dX1_across_91 : decode cX1_across 91 = .ok (.getfield 30, 3) := by decide +kernel
theorem dX1_across_94 : decode cX1_across 94 = .ok (.getfield 204, 3) := by decide +kernel
theorem dX1_across_97 : decode cX1_across 97 = .ok (.iload 10, 2) := by decide +kernel
theorem dX1_across_99 : decode cX1_across 99 = .ok (.iaload, 1) := by decide +kernel
theorem dX1_across_100 : decode cX1_across 100 = .ok (.isub, 1) := by decide +kernel
theorem dX1_across_101 : decode cX1_across 101 = .ok (.istore 12, 2) := by decide +kernel
theorem dX1_across_103 : decode cX1_across 103 = .ok (.iload 12, 2) := by decide +kernel
theorem dX1_across_105 : decode cX1_across 105 = .ok (.iload 7, 2) := by decide +kernel
theorem dX1_across_107 : decode cX1_across 107 = .ok (.if_icmp .lt 183, 3) := by decide +kernel
theorem dX1_across_110 : decode cX1_across 110 = .ok (.iload 12, 2) := by decide +kernel
theorem dX1_across_112 : decode cX1_across 112 = .ok (.aload_n 0, 1) := by decide +kernel
theorem dX1_across_113 : decode cX1_across 113 = .ok (.getfield 41, 3) := by decide +kernel
theorem dX1_across_116 : decode cX1_across 116 = .ok (.getfield 151, 3) := by decide +kernel
theorem dX1_across_119 : decode cX1_across 119 = .ok (.if_icmp .lt 6, 3) := by decide +kernel
theorem dX1_across_122 : decode cX1_across 122 = .ok (.goto 168, 3) := by decide +kernel
theorem dX1_across_125 : decode cX1_across 125 = .ok (.aload_n 0, 1) := by decide +kernel
theorem dX1_across_126 : decode cX1_across 126 = .ok (.getfield 30, 3) := by decide +kernel
theorem dX1_across_129 : decode cX1_across 129 = .ok (.getfield 207, 3) := by decide +kernel
theorem dX1_across_132 : decode cX1_across 132 = .ok (.iload 10, 2) := by decide +kernel
theorem dX1_across_134 : decode cX1_across 134 = .ok (.iaload, 1) := by decide +kernel
theorem dX1_across_135 : decode cX1_across 135 = .ok (.aload_n 0, 1) := by decide +kernel
theorem dX1_across_136 : decode cX1_across 136 = .ok (.getfield 30, 3) := by decide +kernel
theorem dX1_across_139 : decode cX1_across 139 = .ok (.getfield 207, 3) := by decide +kernel
theorem dX1_across_142 : decode cX1_across 142 = .ok (.iload 11, 2) := by decide +kernel
theorem dX1_across_144 : decode cX1_across 144 = .ok (.iaload, 1) := by decide +kernel
theorem dX1_across_145 : decode cX1_across 145 = .ok (.invokestatic 260, 3) := by decide +kernel
theorem dX1_across_148 : decode cX1_across 148 = .ok (.istore 13, 2) := by decide +kernel
theorem dX1_across_150 : decode cX1_across 150 = .ok (.aload_n 0, 1) := by decide +kernel
theorem dX1_across_151 : decode cX1_across 151 = .ok (.getfield 30, 3) := by decide +kernel
theorem dX1_across_154 : decode cX1_across 154 = .ok (.getfield 210, 3) := by decide +kernel
theorem dX1_across_157 : decode cX1_across 157 = .ok (.iload 10, 2) := by decide +kernel
theorem dX1_across_159 : decode cX1_across 159 = .ok (.iaload, 1) := by decide +kernel
theorem dX1_across_160 : decode cX1_across 160 = .ok (.aload_n 0, 1) := by decide +kernel
theorem dX1_across_161 : decode cX1_across 161 = .ok (.getfield 30, 3) := by decide +kernel
theorem dX1_across_164 : decode cX1_across 164 = .ok (.getfield 210, 3) := by decide +kernel
theorem dX1_across_167 : decode cX1_across 167 = .ok (.iload 11, 2) := by decide +kernel
theorem dX1_across_169 : decode cX1_across 169 = .ok (.iaload, 1) := by decide +kernel
theorem dX1_across_170 : decode cX1_across 170 = .ok (.invokestatic 263, 3) := by decide +kernel
theorem dX1_across_173 : decode cX1_across 173 = .ok (.istore 14, 2) := by decide +kernel
theorem dX1_across_175 : decode cX1_across 175 = .ok (.iload 14, 2) := by decide +kernel
theorem dX1_across_177 : decode cX1_across 177 = .ok (.iload 13, 2) := by decide +kernel
theorem dX1_across_179 : decode cX1_across 179 = .ok (.isub, 1) := by decide +kernel
theorem dX1_across_180 : decode cX1_across 180 = .ok (.aload_n 0, 1) := by decide +kernel
theorem dX1_across_181 : decode cX1_across 181 = .ok (.getfield 41, 3) := by decide +kernel
theorem dX1_across_184 : decode cX1_across 184 = .ok (.invokevirtual 266, 3) := by decide +kernel
theorem dX1_across_187 : decode cX1_across 187 = .ok (.if_icmp .lt 103, 3) := by decide +kernel
theorem dX1_across_190 : decode cX1_across 190 = .ok (.aload_n 0, 1) := by decide +kernel
theorem dX1_across_191 : decode cX1_across 191 = .ok (.iload 10, 2) := by decide +kernel
theorem dX1_across_193 : decode cX1_across 193 = .ok (.iload 11, 2) := by decide +kernel
theorem dX1_across_195 : decode cX1_across 195 = .ok (.invokevirtual 269, 3) := by decide +kernel
theorem dX1_across_198 : decode cX1_across 198 = .ok (.ifCond .ne 6, 3) := by decide +kernel
theorem dX1_across_201 : decode cX1_across 201 = .ok (.goto 89, 3) := by decide +kernel
theorem dX1_across_204 : decode cX1_across 204 = .ok (.iload_n 2, 1) := by decide +kernel
theorem dX1_across_205 : decode cX1_across 205 = .ok (.invokestatic 213, 3) := by decide +kernel
theorem dX1_across_208 : decode cX1_across 208 = .ok (.ifCond .eq 44, 3) := by decide +kernel
theorem dX1_across_211 : decode cX1_across 211 = .ok (.aload_n 0, 1) := by decide +kernel
theorem dX1_across_212 : decode cX1_across 212 = .ok (.getfield 45, 3) := by decide +kernel
theorem dX1_across_215 : decode cX1_across 215 = .ok (.aload_n 0, 1) := by decide +kernel
theorem dX1_across_216 : decode cX1_across 216 = .ok (.getfield 30, 3) := by decide +kernel
theorem dX1_across_219 : decode cX1_across 219 = .ok (.getfield 204, 3) := by decide +kernel
theorem dX1_across_222 : decode cX1_across 222 = .ok (.iload 10, 2) := by decide +kernel
theorem dX1_across_224 : decode cX1_across 224 = .ok (.iaload, 1) := by decide +kernel
theorem dX1_across_225 : decode cX1_across 225 = .ok (.iload 13, 2) := by decide +kernel
theorem dX1_across_227 : decode cX1_across 227 = .ok (.aload_n 0, 1) := by decide +kernel
theorem dX1_across_228 : decode cX1_across 228 = .ok (.getfield 30, 3) := by decide +kernel
theorem dX1_across_231 : decode cX1_across 231 = .ok (.getfield 204, 3) := by decide +kernel
theorem dX1_across_234 : decode cX1_across 234 = .ok (.iload 11, 2) := by decide +kernel
theorem dX1_across_236 : decode cX1_across 236 = .ok (.iaload, 1) := by decide +kernel
theorem dX1_across_237 : decode cX1_across 237 = .ok (.iload 14, 2) := by decide +kernel
theorem dX1_across_239 : decode cX1_across 239 = .ok (.iload 5, 2) := by decide +kernel
theorem dX1_across_241 : decode cX1_across 241 = .ok (.iload 6, 2) := by decide +kernel
theorem dX1_across_243 : decode cX1_across 243 = .ok (.iload 12, 2) := by decide +kernel
theorem dX1_across_245 : decode cX1_across 245 = .ok (.i2l, 1) := by decide +kernel
theorem dX1_across_246 : decode cX1_across 246 = .ok (.invokevirtual 154, 3) := by decide +kernel
theorem dX1_across_249 : decode cX1_across 249 = .ok (.goto 41, 3) := by decide +kernel
theorem dX1_across_252 : decode cX1_across 252 = .ok (.aload_n 0, 1) := by decide +kernel
theorem dX1_across_253 : decode cX1_across 253 = .ok (.getfield 45, 3) := by decide +kernel
theorem dX1_across_256 : decode cX1_across 256 = .ok (.iload 13, 2) := by decide +kernel
theorem dX1_across_258 : decode cX1_across 258 = .ok (.aload_n 0, 1) := by decide +kernel
theorem dX1_across_259 : decode cX1_across 259 = .ok (.getfield 30, 3) := by decide +kernel
theorem dX1_across_262 : decode cX1_across 262 = .ok (.getfield 204, 3) := by decide +kernel
theorem dX1_across_265 : decode cX1_across 265 = .ok (.iload 10, 2) := by decide +kernel
theorem dX1_across_267 : decode cX1_across 267 = .ok (.iaload, 1) := by decide +kernel
theorem dX1_across_268 : decode cX1_across 268 = .ok (.iload 14, 2) := by decide +kernel
theorem dX1_across_270 : decode cX1_across 270 = .ok (.aload_n 0, 1) := by decide +kernel
theorem dX1_across_271 : decode cX1_across 271 = .ok (.getfield 30, 3) := by decide +kernel
theorem dX1_across_274 : decode cX1_across 274 = .ok (.getfield 204, 3) := by decide +kernel
theorem dX1_across_277 : decode cX1_across 277 = .ok (.iload 11, 2) := by decide +kernel
theorem dX1_across_279 : decode cX1_across 279 = .ok (.iaload, 1) := by decide +kernel
theorem dX1_across_280 : decode cX1_across 280 = .ok (.iload 5, 2) := by decide +kernel
theorem dX1_across_282 : decode cX1_across 282 = .ok (.iload 6, 2) := by decide +kernel
theorem dX1_across_284 : decode cX1_across 284 = .ok (.iload 12, 2) := by decide +kernel
theorem dX1_across_286 : decode cX1_across 286 = .ok (.i2l, 1) := by decide +kernel
theorem dX1_across_287 : decode cX1_across 287 = .ok (.invokevirtual 154, 3) := by decide +kernel
theorem dX1_across_290 : decode cX1_across 290 = .ok (.iinc 11 1, 3) := by decide +kernel
theorem dX1_across_293 : decode cX1_across 293 = .ok (.goto (-220), 3) := by decide +kernel
theorem dX1_across_296 : decode cX1_across 296 = .ok (.iinc 10 1, 3) := by decide +kernel
theorem dX1_across_299 : decode cX1_across 299 = .ok (.goto (-245), 3) := by decide +kernel
theorem dX1_across_302 : decode cX1_across 302 = .ok (.return_, 1) := by decide +kernel

abbrev mX1_across : sv_M := (cX1_across, 15, yX1_across, wsX1_across, none, { frames := 6, cells := 0, slots := 0, locals := 250 }, [])
theorem c_addI (G : sv_G) (h : sv_h) (z t : Nat) (hmI : Int) (E : List (List Int64)) (H : tE G h t (iN hmI) E) (x0 y0 x1 y1 a c : Int) (m : Int64) (m0 : Int) (h0 : bd x0) (h1 : bd y0) (h2 : bd x1) (h3 : bd y1) (h4 : bd a) (h5 : bd c) (h6 : bd hmI) (h7 : m = jN m0) : CT G mX10_add [.ref t, .int (iN x0), .int (iN y0), .int (iN x1), .int (iN y1), .int (iN a), .int (iN c), .long m] h z (fun v h1 z1 => v = none ∧ z1 = z ∧ tE G h1 t (iN hmI) (E ++ [rwI x0 y0 x1 y1 a c m0 hmI]) ∧ ∀ w, ¬ (t ≤ w ∧ w < t + 4) → h1 w = h w) := by
  rw [← rw_I h0 h1 h2 h3 h4 h5 h6 h7]
  exact c_add G h z t (iN hmI) E H (iN x0) (iN y0) (iN x1) (iN y1) (iN a) (iN c) m
theorem tE.obj {G : sv_G} {h : sv_h} {t : Nat} {hm : Int32} {E : List (List Int64)} (H : tE G h t hm E) : ∃ fs, h t = some (.inr (8, fs)) := by
  obtain ⟨x, ro, od, st, us, sz, ov, T, _⟩ := H
  exact ⟨_, T.2.1⟩
def flT (F : iT → List (List Int64)) (L : List iT) (y : Nat) : List (List Int64) := (L.take y).flatMap F
theorem flT_s {F : iT → List (List Int64)} {L : List iT} {y : Nat} (h : y < L.length) : flT F L (y + 1) = flT F L y ++ F (L.getD y (0, 0, 0)) := by
  unfold flT
  rw [tk_s (0, 0, 0) h, List.flatMap_append]
  simp only [List.flatMap_cons, List.flatMap_nil, List.append_nil]
theorem flT_all {F : iT → List (List Int64)} {L : List iT} : flT F L L.length = L.flatMap F := by
  unfold flT
  rw [List.take_length]
set_option maxHeartbeats 4000000 in
set_option maxRecDepth 100000 in
theorem l_acI (G : sv_G) (Qr : Option Value → sv_h → Nat → Prop) (hb : sv_h) (z b : Nat) (k : Int32) (nc np pl : Nat) (R : Nat → Bool) (hm pa sz : Nat → Nat) (ly vo ar : Nat → Int32) (X Y : Nat → Nat → Int) (fc : Nat → Nat → Nat) (oc : Nat → Nat → Option Nat) (mp : Nat → mvT) (w3 : Bool) (T : List Nat × Nat → Nat → List (Int × Int × Int)) (S : List (List Nat × Nat)) (q t : Nat) (n0 : Int64) (kd : Nat) (l1 l2 x3 x4 x5 x6 : Int32) (K : ck_ G w3 b k nc np pl R hm pa sz ly vo ar X Y fc oc mp T S q t n0 kd l1 l2 x3 x4 x5 x6 hb) (hw : w3 = true) (hmI : Int) (hbm : bd hmI) (near : Int) (hnear : near = 0 ∨ near = 1) (a c : Int) (hba : bd a) (hbc : bd c) (i : Nat) (hi : i < S.length) (f : Nat) (hf : f < 4) (j : Nat) (hj : j < S.length) (g : Nat) (hg : g < 4) (x : Nat) (hx : x < (T (S.getD i ([], 0)) f).length) (E0 : List (List Int64)) (hk : ∀ h, (∀ a, ¬ (t ≤ a ∧ a < t + 4) → h a = hb a) → tE G h t (iN hmI) (E0 ++ (T (S.getD j ([], 0)) g).flatMap (acR (upr f) near x3.toInt (lrn x4).toInt x6 a c hmI ((T (S.getD i ([], 0)) f).getD x (0, 0, 0)))) → V G mX1_across (sv_MQ G mX1_across Qr) 296 [(10, .int (nI (st_ T S i f + x))), (9, .int (nI (st_ T S j (g + 1)))), (8, .int (nI (st_ T S i (f + 1)))), (7, .int (iN near)), (6, .int (iN c)), (5, .int (iN a)), (4, .int (nI g)), (3, .int (nI j)), (2, .int (nI f)), (1, .int (nI i)), (0, .ref (b + 32))] [] h z 0 0) : ∀ (e y : Nat) (h : sv_h), y + e = (T (S.getD j ([], 0)) g).length → (∀ a, ¬ (t ≤ a ∧ a < t + 4) → h a = hb a) → tE G h t (iN hmI) (E0 ++ flT (acR (upr f) near x3.toInt (lrn x4).toInt x6 a c hmI ((T (S.getD i ([], 0)) f).getD x (0, 0, 0))) (T (S.getD j ([], 0)) g) y) → V G mX1_across (sv_MQ G mX1_across Qr) 73 [(11, .int (nI (st_ T S j g + y))), (10, .int (nI (st_ T S i f + x))), (9, .int (nI (st_ T S j (g + 1)))), (8, .int (nI (st_ T S i (f + 1)))), (7, .int (iN near)), (6, .int (iN c)), (5, .int (iN a)), (4, .int (nI g)), (3, .int (nI j)), (2, .int (nI f)), (1, .int (nI i)), (0, .ref (b + 32))] [] h z 0 0 := by
  intro e
  induction e with
  | zero =>
    intro y h hye fr H
    obtain ⟨Z, ⟨⟨fb, fcx, fcy, k1, k2, k3, k4⟩, ⟨fs9, fa, fr9, ft, k5, k6, k7, k8, k9, kA, kB⟩, ⟨fsp, kC⟩, _⟩, kD, kE, kF, kG, kH, kI⟩ := id K
    obtain ⟨z0, z1, ⟨fs, z2, z3⟩, ⟨fb_, z4, z5⟩, ⟨fl, z6, z7⟩, z8, z9, ⟨fq, zA, zB⟩, zC, zD, zE, zF⟩ := id Z
    have w1 := (fr (b + 35) (by omega)).trans z1
    have w2 : ab_I G h (b + 37) 100 fs := (fr _ (by omega)).trans z2
    have w4 : ab_I G h (b + 38) 100 fb_ := (fr _ (by omega)).trans z4
    have w6 : ab_Q G h (b + 39) 3 100 fl := (fr _ (by omega)).trans z6
    have w9 := (fr (b + 1) (by omega)).trans z9
    have wA : ab_Q G h (b + 2) 4 64 fq := (fr _ (by omega)).trans zA
    have wB : ab_I G h (b + 40) 400 fb := (fr _ (by omega)).trans k1
    have wC : ab_I G h (b + 44) 401 fs9 := (fr _ (by omega)).trans k5
    have wD : ab_I G h (b + 45) 1600 fa := (fr _ (by omega)).trans k6
    have wE : ab_I G h (b + 46) 1600 fr9 := (fr _ (by omega)).trans k7
    have wF : ab_I G h (b + 47) 1600 ft := (fr _ (by omega)).trans k8
    have wG := (fr (b + 32) (by omega)).trans kD
    have wH := (fr q (by omega)).trans kE
    obtain ⟨n1, n2⟩ := kI i hi f hf
    obtain ⟨n3, n4⟩ := kI j hj g hg
    rw [st_s] at n2 n4
    refine v_iload dX1_across_73 0 rfl ?_
    refine v_iload dX1_across_75 2 rfl ?_
    refine v_icmp_ge (tgt := 296) dX1_across_77 (by decide) (fun c_77 => ?_) (fun c_77 => ?_)
    · refine v_sub (L' := [(10, _), (9, _), (8, _), (7, _), (6, _), (5, _), (4, _), (3, _), (2, _), (1, _), (0, _)]) [1, 2, 3, 4, 5, 6, 7, 8, 9, 10, 11] rfl ?_
      have e9 : y = (T (S.getD j ([], 0)) g).length := by omega
      rw [e9, flT_all] at H
      exact hk h fr H
    · exact absurd (nI_le (show st_ T S j (g + 1) ≤ st_ T S j g + y by rw [st_s]; omega) (by omega)) c_77
  | succ e ih =>
    intro y h hye fr H
    obtain ⟨Z, ⟨⟨fb, fcx, fcy, k1, k2, k3, k4⟩, ⟨fs9, fa, fr9, ft, k5, k6, k7, k8, k9, kA, kB⟩, ⟨fsp, kC⟩, _⟩, kD, kE, kF, kG, kH, kI⟩ := id K
    obtain ⟨z0, z1, ⟨fs, z2, z3⟩, ⟨fb_, z4, z5⟩, ⟨fl, z6, z7⟩, z8, z9, ⟨fq, zA, zB⟩, zC, zD, zE, zF⟩ := id Z
    have w1 := (fr (b + 35) (by omega)).trans z1
    have w2 : ab_I G h (b + 37) 100 fs := (fr _ (by omega)).trans z2
    have w4 : ab_I G h (b + 38) 100 fb_ := (fr _ (by omega)).trans z4
    have w6 : ab_Q G h (b + 39) 3 100 fl := (fr _ (by omega)).trans z6
    have w9 := (fr (b + 1) (by omega)).trans z9
    have wA : ab_Q G h (b + 2) 4 64 fq := (fr _ (by omega)).trans zA
    have wB : ab_I G h (b + 40) 400 fb := (fr _ (by omega)).trans k1
    have wC : ab_I G h (b + 44) 401 fs9 := (fr _ (by omega)).trans k5
    have wD : ab_I G h (b + 45) 1600 fa := (fr _ (by omega)).trans k6
    have wE : ab_I G h (b + 46) 1600 fr9 := (fr _ (by omega)).trans k7
    have wF : ab_I G h (b + 47) 1600 ft := (fr _ (by omega)).trans k8
    have wG := (fr (b + 32) (by omega)).trans kD
    have wH := (fr q (by omega)).trans kE
    obtain ⟨n1, n2⟩ := kI i hi f hf
    obtain ⟨n3, n4⟩ := kI j hj g hg
    rw [st_s] at n2 n4
    have hy : y < (T (S.getD j ([], 0)) g).length := by omega
    obtain ⟨m1, m2, m3⟩ := (kB i hi).2 f hf x hx
    obtain ⟨m4, m5, m6⟩ := (kB j hj).2 g hg y hy
    have m3 := m3 hw
    have m6 := m6 hw
    obtain ⟨⟨d1, d2⟩, ⟨d3, d4⟩, d5, d6⟩ := n1 x hx
    obtain ⟨⟨e1, e2⟩, ⟨e3, e4⟩, e5, e6⟩ := n3 y hy
    obtain ⟨fst9, ht9⟩ := H.obj
    refine v_iload dX1_across_73 0 rfl ?_
    refine v_iload dX1_across_75 2 rfl ?_
    refine v_icmp_ge (tgt := 296) dX1_across_77 (by decide) (fun c_77 => ?_) (fun c_77 => ?_)
    · exact absurd c_77 (nI_ge (show st_ T S j g + y < st_ T S j (g + 1) by rw [st_s]; omega) (by rw [st_s]; omega))
    · refine v_aload_n dX1_across_80 rfl 11 rfl ?_
      refine v_getf 1 (ci := 0) (C := RX1) (T := TX1) (N := 6) rfl iwX1_across_X1 (Nat.le_of_ble_eq_true rfl) (by decide +kernel) dX1_across_81 (by first | with_reducible assumption) rfl ?_
      refine v_getf 11 (ci := 6) (C := RX8) (T := TX8) (N := 14) rfl iwX1_across_X8 (Nat.le_of_ble_eq_true rfl) (by decide +kernel) dX1_across_84 (by first | with_reducible assumption) rfl ?_
      refine v_iload dX1_across_87 0 rfl ?_
      refine v_ialdS (v := iN ((T (S.getD j ([], 0)) g).getD y (0, 0, 0)).1) dX1_across_89 (by first | with_reducible assumption) (vp_in_nI (by omega) (by omega)) (by rw [nI_clamp (by omega)]; exact m4) ?_
      refine v_aload_n dX1_across_90 rfl 11 rfl ?_
      refine v_getf 1 (ci := 0) (C := RX1) (T := TX1) (N := 6) rfl iwX1_across_X1 (Nat.le_of_ble_eq_true rfl) (by decide +kernel) dX1_across_91 (by first | with_reducible assumption) rfl ?_
      refine v_getf 11 (ci := 6) (C := RX8) (T := TX8) (N := 14) rfl iwX1_across_X8 (Nat.le_of_ble_eq_true rfl) (by decide +kernel) dX1_across_94 (by first | with_reducible assumption) rfl ?_
      refine v_iload dX1_across_97 1 rfl ?_
      refine v_ialdS (v := iN ((T (S.getD i ([], 0)) f).getD x (0, 0, 0)).1) dX1_across_99 (by first | with_reducible assumption) (vp_in_nI (by omega) (by omega)) (by rw [nI_clamp (by omega)]; exact m1) ?_
      refine v_isub dX1_across_100 ?_
      rw [← iN_sub]
      refine v_istore (L' := [(12, _), (11, _), (10, _), (9, _), (8, _), (7, _), (6, _), (5, _), (4, _), (3, _), (2, _), (1, _), (0, _)]) dX1_across_101 (Nat.le_of_ble_eq_true rfl) rfl ?_
      refine v_iload dX1_across_103 0 rfl ?_
      refine v_iload dX1_across_105 5 rfl ?_
      refine v_icmp_lt (tgt := 290) dX1_across_107 (by decide) (fun c_107 => ?_) (fun c_107 => ?_)
      · refine v_iinc (j := 1) (L' := [(11, _), (12, _), (10, _), (9, _), (8, _), (7, _), (6, _), (5, _), (4, _), (3, _), (2, _), (1, _), (0, _)]) (v := nI (st_ T S j g + (y + 1))) dX1_across_290 rfl (nI_1 _) (Nat.le_of_ble_eq_true rfl) rfl ?_
        refine v_goto (tgt := 73) dX1_across_293 (by decide) ?_
        refine v_sub (L' := [(11, _), (10, _), (9, _), (8, _), (7, _), (6, _), (5, _), (4, _), (3, _), (2, _), (1, _), (0, _)]) [0, 2, 3, 4, 5, 6, 7, 8, 9, 10, 11, 12] rfl ?_
        first
          | (have c9 := H1
             refine ih (y + 1) _ (by omega) (fun a9 p9 => (fr1 a9 p9).trans (fr a9 p9)) ?_
             rw [flT_s hy, ← List.append_assoc, show acR (upr f) near x3.toInt (lrn x4).toInt x6 a c hmI ((T (S.getD i ([], 0)) f).getD x (0, 0, 0)) ((T (S.getD j ([], 0)) g).getD y (0, 0, 0)) = [_] from if_pos hcon]
             first
               | (rw [if_pos (sv_ifn c_208)]; exact c9)
               | (rw [if_neg (sv_ift c_208)]; exact c9))
          | (refine ih (y + 1) _ (by omega) fr ?_
             rw [flT_s hy, show acR (upr f) near x3.toInt (lrn x4).toInt x6 a c hmI ((T (S.getD i ([], 0)) f).getD x (0, 0, 0)) ((T (S.getD j ([], 0)) g).getD y (0, 0, 0)) = [] from if_neg (fun r9 => (by
               first
                 | exact absurd r9.2.2.2 (sv_ift c_198)
                 | (have q9 := c_187
                    rw [Int32.lt_iff_toInt_lt, iN_to (by omega) (by omega)] at q9
                    have r8 := r9.2.2.1
                    omega)
                 | (have q9 := Int32.not_lt.mp c_119
                    rw [Int32.le_iff_toInt_le, iN_to (by omega) (by omega)] at q9
                    have r8 := r9.2.1
                    omega)
                 | (have q9 := (iN_lt (a := (((T (S.getD j ([], 0)) g).getD y (0, 0, 0)).1 - ((T (S.getD i ([], 0)) f).getD x (0, 0, 0)).1)) (b := near) (by omega) (by omega) (by omega) (by omega)).mp c_107
                    have r8 := r9.1
                    omega))), List.append_nil]
             exact H)
      · refine v_iload dX1_across_110 0 rfl ?_
        refine v_aload_n dX1_across_112 rfl 12 rfl ?_
        refine v_getf 4 (ci := 0) (C := RX1) (T := TX1) (N := 6) rfl iwX1_across_X1 (Nat.le_of_ble_eq_true rfl) (by decide +kernel) dX1_across_113 (by first | with_reducible assumption) rfl ?_
        refine v_getf 4 (ci := 5) (C := RX7) (T := TX7) (N := 8) rfl iwX1_across_X7 (Nat.le_of_ble_eq_true rfl) (by decide +kernel) dX1_across_116 (by first | with_reducible assumption) rfl ?_
        refine v_icmp_lt (tgt := 125) dX1_across_119 (by decide) (fun c_119 => ?_) (fun c_119 => ?_)
        · refine v_aload_n dX1_across_125 rfl 12 rfl ?_
          refine v_getf 1 (ci := 0) (C := RX1) (T := TX1) (N := 6) rfl iwX1_across_X1 (Nat.le_of_ble_eq_true rfl) (by decide +kernel) dX1_across_126 (by first | with_reducible assumption) rfl ?_
          refine v_getf 12 (ci := 6) (C := RX8) (T := TX8) (N := 14) rfl iwX1_across_X8 (Nat.le_of_ble_eq_true rfl) (by decide +kernel) dX1_across_129 (by first | with_reducible assumption) rfl ?_
          refine v_iload dX1_across_132 2 rfl ?_
          refine v_ialdS (v := iN ((T (S.getD i ([], 0)) f).getD x (0, 0, 0)).2.1) dX1_across_134 (by first | with_reducible assumption) (vp_in_nI (by omega) (by omega)) (by rw [nI_clamp (by omega)]; exact m2) ?_
          refine v_aload_n dX1_across_135 rfl 12 rfl ?_
          refine v_getf 1 (ci := 0) (C := RX1) (T := TX1) (N := 6) rfl iwX1_across_X1 (Nat.le_of_ble_eq_true rfl) (by decide +kernel) dX1_across_136 (by first | with_reducible assumption) rfl ?_
          refine v_getf 12 (ci := 6) (C := RX8) (T := TX8) (N := 14) rfl iwX1_across_X8 (Nat.le_of_ble_eq_true rfl) (by decide +kernel) dX1_across_139 (by first | with_reducible assumption) rfl ?_
          refine v_iload dX1_across_142 1 rfl ?_
          refine v_ialdS (v := iN ((T (S.getD j ([], 0)) g).getD y (0, 0, 0)).2.1) dX1_across_144 (by first | with_reducible assumption) (vp_in_nI (by omega) (by omega)) (by rw [nI_clamp (by omega)]; exact m5) ?_
          refine v_mmax (by decide +kernel) (by decide +kernel) (by decide +kernel) (by decide +kernel) dX1_across_145 (Nat.le_of_ble_eq_true rfl) (Nat.le_of_ble_eq_true rfl) (Nat.le_of_ble_eq_true rfl) (Nat.le_of_ble_eq_true rfl) ?_
          rw [gmI_max (by omega) (by omega)]
          refine v_istore (L' := [(13, _), (12, _), (11, _), (10, _), (9, _), (8, _), (7, _), (6, _), (5, _), (4, _), (3, _), (2, _), (1, _), (0, _)]) dX1_across_148 (Nat.le_of_ble_eq_true rfl) rfl ?_
          refine v_aload_n dX1_across_150 rfl 13 rfl ?_
          refine v_getf 1 (ci := 0) (C := RX1) (T := TX1) (N := 6) rfl iwX1_across_X1 (Nat.le_of_ble_eq_true rfl) (by decide +kernel) dX1_across_151 (by first | with_reducible assumption) rfl ?_
          refine v_getf 13 (ci := 6) (C := RX8) (T := TX8) (N := 14) rfl iwX1_across_X8 (Nat.le_of_ble_eq_true rfl) (by decide +kernel) dX1_across_154 (by first | with_reducible assumption) rfl ?_
          refine v_iload dX1_across_157 3 rfl ?_
          refine v_ialdS (v := iN ((T (S.getD i ([], 0)) f).getD x (0, 0, 0)).2.2) dX1_across_159 (by first | with_reducible assumption) (vp_in_nI (by omega) (by omega)) (by rw [nI_clamp (by omega)]; exact m3) ?_
          refine v_aload_n dX1_across_160 rfl 13 rfl ?_
          refine v_getf 1 (ci := 0) (C := RX1) (T := TX1) (N := 6) rfl iwX1_across_X1 (Nat.le_of_ble_eq_true rfl) (by decide +kernel) dX1_across_161 (by first | with_reducible assumption) rfl ?_
          refine v_getf 13 (ci := 6) (C := RX8) (T := TX8) (N := 14) rfl iwX1_across_X8 (Nat.le_of_ble_eq_true rfl) (by decide +kernel) dX1_across_164 (by first | with_reducible assumption) rfl ?_
          refine v_iload dX1_across_167 2 rfl ?_
          refine v_ialdS (v := iN ((T (S.getD j ([], 0)) g).getD y (0, 0, 0)).2.2) dX1_across_169 (by first | with_reducible assumption) (vp_in_nI (by omega) (by omega)) (by rw [nI_clamp (by omega)]; exact m6) ?_
          refine v_mmin (by decide +kernel) (by decide +kernel) (by decide +kernel) (by decide +kernel) dX1_across_170 (Nat.le_of_ble_eq_true rfl) (Nat.le_of_ble_eq_true rfl) (Nat.le_of_ble_eq_true rfl) (Nat.le_of_ble_eq_true rfl) ?_
          rw [gmI_min (by omega) (by omega)]
          refine v_istore (L' := [(14, _), (13, _), (12, _), (11, _), (10, _), (9, _), (8, _), (7, _), (6, _), (5, _), (4, _), (3, _), (2, _), (1, _), (0, _)]) dX1_across_173 (Nat.le_of_ble_eq_true rfl) rfl ?_
          refine v_iload dX1_across_175 0 rfl ?_
          refine v_iload dX1_across_177 1 rfl ?_
          refine v_isub dX1_across_179 ?_
          rw [← iN_sub]
          refine v_aload_n dX1_across_180 rfl 14 rfl ?_
          refine v_getf 4 (ci := 0) (C := RX1) (T := TX1) (N := 6) rfl iwX1_across_X1 (Nat.le_of_ble_eq_true rfl) (by decide +kernel) dX1_across_181 (by first | with_reducible assumption) rfl ?_
          refine v_callVq (M' := mX7_leastRun) (n := 0) (As := []) (ci := 5) (r := (RX7, TX7, 8)) gX1_across_X7_leastRun rfl (by decide +kernel) ⟨(Nat.le_of_ble_eq_true rfl), (Nat.le_of_ble_eq_true rfl)⟩ rfl rfl dX1_across_184 rfl ⟨(Nat.le_of_ble_eq_true rfl), (Nat.le_of_ble_eq_true rfl)⟩ (Nat.le_of_ble_eq_true rfl) (by first | with_reducible assumption) rfl (c_leastRun G _ _ q n0 kd l1 l2 x3 x4 x5 x6 wH) (fun v h1 z1 hq => v_pq hq ?_)
          refine v_icmp_lt (tgt := 290) dX1_across_187 (by decide) (fun c_187 => ?_) (fun c_187 => ?_)
          · refine v_iinc (j := 3) (L' := [(11, _), (14, _), (13, _), (12, _), (10, _), (9, _), (8, _), (7, _), (6, _), (5, _), (4, _), (3, _), (2, _), (1, _), (0, _)]) (v := nI (st_ T S j g + (y + 1))) dX1_across_290 rfl (nI_1 _) (Nat.le_of_ble_eq_true rfl) rfl ?_
            refine v_goto (tgt := 73) dX1_across_293 (by decide) ?_
            refine v_sub (L' := [(11, _), (10, _), (9, _), (8, _), (7, _), (6, _), (5, _), (4, _), (3, _), (2, _), (1, _), (0, _)]) [0, 4, 5, 6, 7, 8, 9, 10, 11, 12, 13, 14] rfl ?_
            first
              | (have c9 := H1
                 refine ih (y + 1) _ (by omega) (fun a9 p9 => (fr1 a9 p9).trans (fr a9 p9)) ?_
                 rw [flT_s hy, ← List.append_assoc, show acR (upr f) near x3.toInt (lrn x4).toInt x6 a c hmI ((T (S.getD i ([], 0)) f).getD x (0, 0, 0)) ((T (S.getD j ([], 0)) g).getD y (0, 0, 0)) = [_] from if_pos hcon]
                 first
                   | (rw [if_pos (sv_ifn c_208)]; exact c9)
                   | (rw [if_neg (sv_ift c_208)]; exact c9))
              | (refine ih (y + 1) _ (by omega) fr ?_
                 rw [flT_s hy, show acR (upr f) near x3.toInt (lrn x4).toInt x6 a c hmI ((T (S.getD i ([], 0)) f).getD x (0, 0, 0)) ((T (S.getD j ([], 0)) g).getD y (0, 0, 0)) = [] from if_neg (fun r9 => (by
                   first
                     | exact absurd r9.2.2.2 (sv_ift c_198)
                     | (have q9 := c_187
                        rw [Int32.lt_iff_toInt_lt, iN_to (by omega) (by omega)] at q9
                        have r8 := r9.2.2.1
                        omega)
                     | (have q9 := Int32.not_lt.mp c_119
                        rw [Int32.le_iff_toInt_le, iN_to (by omega) (by omega)] at q9
                        have r8 := r9.2.1
                        omega)
                     | (have q9 := (iN_lt (a := (((T (S.getD j ([], 0)) g).getD y (0, 0, 0)).1 - ((T (S.getD i ([], 0)) f).getD x (0, 0, 0)).1)) (b := near) (by omega) (by omega) (by omega) (by omega)).mp c_107
                        have r8 := r9.1
                        omega))), List.append_nil]
                 exact H)
          · refine v_aload_n dX1_across_190 rfl 14 rfl ?_
            refine v_iload dX1_across_191 4 rfl ?_
            refine v_iload dX1_across_193 3 rfl ?_
            refine v_callVq (M' := mX1_areEnds) (n := 2) (As := [_, _]) (ci := 0) (r := (RX1, TX1, 6)) gX1_across_X1_areEnds rfl (by decide +kernel) ⟨(Nat.le_of_ble_eq_true rfl), (Nat.le_of_ble_eq_true rfl)⟩ rfl rfl dX1_across_195 rfl ⟨(Nat.le_of_ble_eq_true rfl), (Nat.le_of_ble_eq_true rfl)⟩ (Nat.le_of_ble_eq_true rfl) (by first | with_reducible assumption) rfl (c_areEnds G hb _ b k nc np pl R hm pa sz ly vo ar X Y fc oc mp w3 T S q t n0 kd l1 l2 x3 x4 x5 x6 K h fr i hi f hf x hx j hj g hg y hy hw) (fun v h1 z1 hq => v_pq hq ?_)
            refine v_if_ne (tgt := 204) dX1_across_198 (by decide) (fun c_198 => ?_) (fun c_198 => ?_)
            · have hcon : near ≤ (((T (S.getD j ([], 0)) g).getD y (0, 0, 0)).1 - ((T (S.getD i ([], 0)) f).getD x (0, 0, 0)).1) ∧ (((T (S.getD j ([], 0)) g).getD y (0, 0, 0)).1 - ((T (S.getD i ([], 0)) f).getD x (0, 0, 0)).1) < x3.toInt ∧ (lrn x4).toInt ≤ min ((T (S.getD i ([], 0)) f).getD x (0, 0, 0)).2.2 ((T (S.getD j ([], 0)) g).getD y (0, 0, 0)).2.2 - max ((T (S.getD i ([], 0)) f).getD x (0, 0, 0)).2.1 ((T (S.getD j ([], 0)) g).getD y (0, 0, 0)).2.1 ∧ (x6 = -1 ∨ min (((T (S.getD i ([], 0)) f).getD x (0, 0, 0)).2.2 - ((T (S.getD i ([], 0)) f).getD x (0, 0, 0)).2.1) (((T (S.getD j ([], 0)) g).getD y (0, 0, 0)).2.2 - ((T (S.getD j ([], 0)) g).getD y (0, 0, 0)).2.1) < x6.toInt) := by
                refine ⟨?_, ?_, ?_, sv_ifn c_198⟩
                · have q9 := mt (iN_lt (a := (((T (S.getD j ([], 0)) g).getD y (0, 0, 0)).1 - ((T (S.getD i ([], 0)) f).getD x (0, 0, 0)).1)) (b := near) (by omega) (by omega) (by omega) (by omega)).mpr c_107
                  omega
                · have q9 := c_119
                  rw [Int32.lt_iff_toInt_lt, iN_to (by omega) (by omega)] at q9
                  exact q9
                · have q9 := Int32.not_lt.mp c_187
                  rw [Int32.le_iff_toInt_le, iN_to (by omega) (by omega)] at q9
                  exact q9
              refine v_iload_n dX1_across_204 rfl 12 rfl ?_
              refine v_callSq (M' := mX1_isUpright) (n := 1) (As := [_]) ggX1_across_X1_isUpright (by decide +kernel) (by decide +kernel) (by decide +kernel) rfl (by decide +kernel) ⟨(Nat.le_of_ble_eq_true rfl), (Nat.le_of_ble_eq_true rfl)⟩ dX1_across_205 rfl ⟨(Nat.le_of_ble_eq_true rfl), (Nat.le_of_ble_eq_true rfl)⟩ (Nat.le_of_ble_eq_true rfl) rfl (c_upr G _ _ f hf) (fun v h1 z1 hq => v_pq hq ?_)
              refine v_if_eq (tgt := 252) dX1_across_208 (by decide) (fun c_208 => ?_) (fun c_208 => ?_)
              · refine v_aload_n dX1_across_252 rfl 14 rfl ?_
                refine v_getf 5 (ci := 0) (C := RX1) (T := TX1) (N := 6) rfl iwX1_across_X1 (Nat.le_of_ble_eq_true rfl) (by decide +kernel) dX1_across_253 (by first | with_reducible assumption) rfl ?_
                refine v_iload dX1_across_256 1 rfl ?_
                refine v_aload_n dX1_across_258 rfl 14 rfl ?_
                refine v_getf 1 (ci := 0) (C := RX1) (T := TX1) (N := 6) rfl iwX1_across_X1 (Nat.le_of_ble_eq_true rfl) (by decide +kernel) dX1_across_259 (by first | with_reducible assumption) rfl ?_
                refine v_getf 11 (ci := 6) (C := RX8) (T := TX8) (N := 14) rfl iwX1_across_X8 (Nat.le_of_ble_eq_true rfl) (by decide +kernel) dX1_across_262 (by first | with_reducible assumption) rfl ?_
                refine v_iload dX1_across_265 4 rfl ?_
                refine v_ialdS (v := iN ((T (S.getD i ([], 0)) f).getD x (0, 0, 0)).1) dX1_across_267 (by first | with_reducible assumption) (vp_in_nI (by omega) (by omega)) (by rw [nI_clamp (by omega)]; exact m1) ?_
                refine v_iload dX1_across_268 0 rfl ?_
                refine v_aload_n dX1_across_270 rfl 14 rfl ?_
                refine v_getf 1 (ci := 0) (C := RX1) (T := TX1) (N := 6) rfl iwX1_across_X1 (Nat.le_of_ble_eq_true rfl) (by decide +kernel) dX1_across_271 (by first | with_reducible assumption) rfl ?_
                refine v_getf 11 (ci := 6) (C := RX8) (T := TX8) (N := 14) rfl iwX1_across_X8 (Nat.le_of_ble_eq_true rfl) (by decide +kernel) dX1_across_274 (by first | with_reducible assumption) rfl ?_
                refine v_iload dX1_across_277 3 rfl ?_
                refine v_ialdS (v := iN ((T (S.getD j ([], 0)) g).getD y (0, 0, 0)).1) dX1_across_279 (by first | with_reducible assumption) (vp_in_nI (by omega) (by omega)) (by rw [nI_clamp (by omega)]; exact m4) ?_
                refine v_iload dX1_across_280 9 rfl ?_
                refine v_iload dX1_across_282 8 rfl ?_
                refine v_iload dX1_across_284 2 rfl ?_
                refine v_i2l dX1_across_286 rfl ?_
                refine v_callVq (M' := mX10_add) (n := 7) (As := [_, _, _, _, _, _, _]) (ci := 8) (r := (RX10, TX10, 7)) gX1_across_X10_add rfl (by decide +kernel) ⟨(Nat.le_of_ble_eq_true rfl), (Nat.le_of_ble_eq_true rfl)⟩ rfl rfl dX1_across_287 rfl ⟨(Nat.le_of_ble_eq_true rfl), (Nat.le_of_ble_eq_true rfl)⟩ (Nat.le_of_ble_eq_true rfl) (by first | with_reducible assumption) rfl (c_addI G h _ t hmI _ H (max ((T (S.getD i ([], 0)) f).getD x (0, 0, 0)).2.1 ((T (S.getD j ([], 0)) g).getD y (0, 0, 0)).2.1) ((T (S.getD i ([], 0)) f).getD x (0, 0, 0)).1 (min ((T (S.getD i ([], 0)) f).getD x (0, 0, 0)).2.2 ((T (S.getD j ([], 0)) g).getD y (0, 0, 0)).2.2) ((T (S.getD j ([], 0)) g).getD y (0, 0, 0)).1 a c _ (((T (S.getD j ([], 0)) g).getD y (0, 0, 0)).1 - ((T (S.getD i ([], 0)) f).getD x (0, 0, 0)).1) (show bd _ from by unfold bd; omega) (show bd _ from by unfold bd; omega) (show bd _ from by unfold bd; omega) (show bd _ from by unfold bd; omega) hba hbc hbm (iN_64 (by omega) (by omega))) (fun v h2 z2 hq9 => ?_)
                obtain ⟨rfl, rfl, H1, fr1⟩ := hq9
                refine v_iinc (j := 3) (L' := [(11, _), (14, _), (13, _), (12, _), (10, _), (9, _), (8, _), (7, _), (6, _), (5, _), (4, _), (3, _), (2, _), (1, _), (0, _)]) (v := nI (st_ T S j g + (y + 1))) dX1_across_290 rfl (nI_1 _) (Nat.le_of_ble_eq_true rfl) rfl ?_
                refine v_goto (tgt := 73) dX1_across_293 (by decide) ?_
                refine v_sub (L' := [(11, _), (10, _), (9, _), (8, _), (7, _), (6, _), (5, _), (4, _), (3, _), (2, _), (1, _), (0, _)]) [0, 4, 5, 6, 7, 8, 9, 10, 11, 12, 13, 14] rfl ?_
                first
                  | (have c9 := H1
                     refine ih (y + 1) _ (by omega) (fun a9 p9 => (fr1 a9 p9).trans (fr a9 p9)) ?_
                     rw [flT_s hy, ← List.append_assoc, show acR (upr f) near x3.toInt (lrn x4).toInt x6 a c hmI ((T (S.getD i ([], 0)) f).getD x (0, 0, 0)) ((T (S.getD j ([], 0)) g).getD y (0, 0, 0)) = [_] from if_pos hcon]
                     first
                       | (rw [if_pos (sv_ifn c_208)]; exact c9)
                       | (rw [if_neg (sv_ift c_208)]; exact c9))
                  | (refine ih (y + 1) _ (by omega) fr ?_
                     rw [flT_s hy, show acR (upr f) near x3.toInt (lrn x4).toInt x6 a c hmI ((T (S.getD i ([], 0)) f).getD x (0, 0, 0)) ((T (S.getD j ([], 0)) g).getD y (0, 0, 0)) = [] from if_neg (fun r9 => (by
                       first
                         | exact absurd r9.2.2.2 (sv_ift c_198)
                         | (have q9 := c_187
                            rw [Int32.lt_iff_toInt_lt, iN_to (by omega) (by omega)] at q9
                            have r8 := r9.2.2.1
                            omega)
                         | (have q9 := Int32.not_lt.mp c_119
                            rw [Int32.le_iff_toInt_le, iN_to (by omega) (by omega)] at q9
                            have r8 := r9.2.1
                            omega)
                         | (have q9 := (iN_lt (a := (((T (S.getD j ([], 0)) g).getD y (0, 0, 0)).1 - ((T (S.getD i ([], 0)) f).getD x (0, 0, 0)).1)) (b := near) (by omega) (by omega) (by omega) (by omega)).mp c_107
                            have r8 := r9.1
                            omega))), List.append_nil]
                     exact H)
              · refine v_aload_n dX1_across_211 rfl 14 rfl ?_
                refine v_getf 5 (ci := 0) (C := RX1) (T := TX1) (N := 6) rfl iwX1_across_X1 (Nat.le_of_ble_eq_true rfl) (by decide +kernel) dX1_across_212 (by first | with_reducible assumption) rfl ?_
                refine v_aload_n dX1_across_215 rfl 14 rfl ?_
                refine v_getf 1 (ci := 0) (C := RX1) (T := TX1) (N := 6) rfl iwX1_across_X1 (Nat.le_of_ble_eq_true rfl) (by decide +kernel) dX1_across_216 (by first | with_reducible assumption) rfl ?_
                refine v_getf 11 (ci := 6) (C := RX8) (T := TX8) (N := 14) rfl iwX1_across_X8 (Nat.le_of_ble_eq_true rfl) (by decide +kernel) dX1_across_219 (by first | with_reducible assumption) rfl ?_
                refine v_iload dX1_across_222 4 rfl ?_
                refine v_ialdS (v := iN ((T (S.getD i ([], 0)) f).getD x (0, 0, 0)).1) dX1_across_224 (by first | with_reducible assumption) (vp_in_nI (by omega) (by omega)) (by rw [nI_clamp (by omega)]; exact m1) ?_
                refine v_iload dX1_across_225 1 rfl ?_
                refine v_aload_n dX1_across_227 rfl 14 rfl ?_
                refine v_getf 1 (ci := 0) (C := RX1) (T := TX1) (N := 6) rfl iwX1_across_X1 (Nat.le_of_ble_eq_true rfl) (by decide +kernel) dX1_across_228 (by first | with_reducible assumption) rfl ?_
                refine v_getf 11 (ci := 6) (C := RX8) (T := TX8) (N := 14) rfl iwX1_across_X8 (Nat.le_of_ble_eq_true rfl) (by decide +kernel) dX1_across_231 (by first | with_reducible assumption) rfl ?_
                refine v_iload dX1_across_234 3 rfl ?_
                refine v_ialdS (v := iN ((T (S.getD j ([], 0)) g).getD y (0, 0, 0)).1) dX1_across_236 (by first | with_reducible assumption) (vp_in_nI (by omega) (by omega)) (by rw [nI_clamp (by omega)]; exact m4) ?_
                refine v_iload dX1_across_237 0 rfl ?_
                refine v_iload dX1_across_239 9 rfl ?_
                refine v_iload dX1_across_241 8 rfl ?_
                refine v_iload dX1_across_243 2 rfl ?_
                refine v_i2l dX1_across_245 rfl ?_
                refine v_callVq (M' := mX10_add) (n := 7) (As := [_, _, _, _, _, _, _]) (ci := 8) (r := (RX10, TX10, 7)) gX1_across_X10_add rfl (by decide +kernel) ⟨(Nat.le_of_ble_eq_true rfl), (Nat.le_of_ble_eq_true rfl)⟩ rfl rfl dX1_across_246 rfl ⟨(Nat.le_of_ble_eq_true rfl), (Nat.le_of_ble_eq_true rfl)⟩ (Nat.le_of_ble_eq_true rfl) (by first | with_reducible assumption) rfl (c_addI G h _ t hmI _ H ((T (S.getD i ([], 0)) f).getD x (0, 0, 0)).1 (max ((T (S.getD i ([], 0)) f).getD x (0, 0, 0)).2.1 ((T (S.getD j ([], 0)) g).getD y (0, 0, 0)).2.1) ((T (S.getD j ([], 0)) g).getD y (0, 0, 0)).1 (min ((T (S.getD i ([], 0)) f).getD x (0, 0, 0)).2.2 ((T (S.getD j ([], 0)) g).getD y (0, 0, 0)).2.2) a c _ (((T (S.getD j ([], 0)) g).getD y (0, 0, 0)).1 - ((T (S.getD i ([], 0)) f).getD x (0, 0, 0)).1) (show bd _ from by unfold bd; omega) (show bd _ from by unfold bd; omega) (show bd _ from by unfold bd; omega) (show bd _ from by unfold bd; omega) hba hbc hbm (iN_64 (by omega) (by omega))) (fun v h2 z2 hq9 => ?_)
                obtain ⟨rfl, rfl, H1, fr1⟩ := hq9
                refine v_goto (tgt := 290) dX1_across_249 (by decide) ?_
                refine v_iinc (j := 3) (L' := [(11, _), (14, _), (13, _), (12, _), (10, _), (9, _), (8, _), (7, _), (6, _), (5, _), (4, _), (3, _), (2, _), (1, _), (0, _)]) (v := nI (st_ T S j g + (y + 1))) dX1_across_290 rfl (nI_1 _) (Nat.le_of_ble_eq_true rfl) rfl ?_
                refine v_goto (tgt := 73) dX1_across_293 (by decide) ?_
                refine v_sub (L' := [(11, _), (10, _), (9, _), (8, _), (7, _), (6, _), (5, _), (4, _), (3, _), (2, _), (1, _), (0, _)]) [0, 4, 5, 6, 7, 8, 9, 10, 11, 12, 13, 14] rfl ?_
                first
                  | (have c9 := H1
                     refine ih (y + 1) _ (by omega) (fun a9 p9 => (fr1 a9 p9).trans (fr a9 p9)) ?_
                     rw [flT_s hy, ← List.append_assoc, show acR (upr f) near x3.toInt (lrn x4).toInt x6 a c hmI ((T (S.getD i ([], 0)) f).getD x (0, 0, 0)) ((T (S.getD j ([], 0)) g).getD y (0, 0, 0)) = [_] from if_pos hcon]
                     first
                       | (rw [if_pos (sv_ifn c_208)]; exact c9)
                       | (rw [if_neg (sv_ift c_208)]; exact c9))
                  | (refine ih (y + 1) _ (by omega) fr ?_
                     rw [flT_s hy, show acR (upr f) near x3.toInt (lrn x4).toInt x6 a c hmI ((T (S.getD i ([], 0)) f).getD x (0, 0, 0)) ((T (S.getD j ([], 0)) g).getD y (0, 0, 0)) = [] from if_neg (fun r9 => (by
                       first
                         | exact absurd r9.2.2.2 (sv_ift c_198)
                         | (have q9 := c_187
                            rw [Int32.lt_iff_toInt_lt, iN_to (by omega) (by omega)] at q9
                            have r8 := r9.2.2.1
                            omega)
                         | (have q9 := Int32.not_lt.mp c_119
                            rw [Int32.le_iff_toInt_le, iN_to (by omega) (by omega)] at q9
                            have r8 := r9.2.1
                            omega)
                         | (have q9 := (iN_lt (a := (((T (S.getD j ([], 0)) g).getD y (0, 0, 0)).1 - ((T (S.getD i ([], 0)) f).getD x (0, 0, 0)).1)) (b := near) (by omega) (by omega) (by omega) (by omega)).mp c_107
                            have r8 := r9.1
                            omega))), List.append_nil]
                     exact H)
            · refine v_goto (tgt := 290) dX1_across_201 (by decide) ?_
              refine v_iinc (j := 3) (L' := [(11, _), (14, _), (13, _), (12, _), (10, _), (9, _), (8, _), (7, _), (6, _), (5, _), (4, _), (3, _), (2, _), (1, _), (0, _)]) (v := nI (st_ T S j g + (y + 1))) dX1_across_290 rfl (nI_1 _) (Nat.le_of_ble_eq_true rfl) rfl ?_
              refine v_goto (tgt := 73) dX1_across_293 (by decide) ?_
              refine v_sub (L' := [(11, _), (10, _), (9, _), (8, _), (7, _), (6, _), (5, _), (4, _), (3, _), (2, _), (1, _), (0, _)]) [0, 4, 5, 6, 7, 8, 9, 10, 11, 12, 13, 14] rfl ?_
              first
                | (have c9 := H1
                   refine ih (y + 1) _ (by omega) (fun a9 p9 => (fr1 a9 p9).trans (fr a9 p9)) ?_
                   rw [flT_s hy, ← List.append_assoc, show acR (upr f) near x3.toInt (lrn x4).toInt x6 a c hmI ((T (S.getD i ([], 0)) f).getD x (0, 0, 0)) ((T (S.getD j ([], 0)) g).getD y (0, 0, 0)) = [_] from if_pos hcon]
                   first
                     | (rw [if_pos (sv_ifn c_208)]; exact c9)
                     | (rw [if_neg (sv_ift c_208)]; exact c9))
                | (refine ih (y + 1) _ (by omega) fr ?_
                   rw [flT_s hy, show acR (upr f) near x3.toInt (lrn x4).toInt x6 a c hmI ((T (S.getD i ([], 0)) f).getD x (0, 0, 0)) ((T (S.getD j ([], 0)) g).getD y (0, 0, 0)) = [] from if_neg (fun r9 => (by
                     first
                       | exact absurd r9.2.2.2 (sv_ift c_198)
                       | (have q9 := c_187
                          rw [Int32.lt_iff_toInt_lt, iN_to (by omega) (by omega)] at q9
                          have r8 := r9.2.2.1
                          omega)
                       | (have q9 := Int32.not_lt.mp c_119
                          rw [Int32.le_iff_toInt_le, iN_to (by omega) (by omega)] at q9
                          have r8 := r9.2.1
                          omega)
                       | (have q9 := (iN_lt (a := (((T (S.getD j ([], 0)) g).getD y (0, 0, 0)).1 - ((T (S.getD i ([], 0)) f).getD x (0, 0, 0)).1)) (b := near) (by omega) (by omega) (by omega) (by omega)).mp c_107
                          have r8 := r9.1
                          omega))), List.append_nil]
                   exact H)
        · refine v_goto (tgt := 290) dX1_across_122 (by decide) ?_
          refine v_iinc (j := 1) (L' := [(11, _), (12, _), (10, _), (9, _), (8, _), (7, _), (6, _), (5, _), (4, _), (3, _), (2, _), (1, _), (0, _)]) (v := nI (st_ T S j g + (y + 1))) dX1_across_290 rfl (nI_1 _) (Nat.le_of_ble_eq_true rfl) rfl ?_
          refine v_goto (tgt := 73) dX1_across_293 (by decide) ?_
          refine v_sub (L' := [(11, _), (10, _), (9, _), (8, _), (7, _), (6, _), (5, _), (4, _), (3, _), (2, _), (1, _), (0, _)]) [0, 2, 3, 4, 5, 6, 7, 8, 9, 10, 11, 12] rfl ?_
          first
            | (have c9 := H1
               refine ih (y + 1) _ (by omega) (fun a9 p9 => (fr1 a9 p9).trans (fr a9 p9)) ?_
               rw [flT_s hy, ← List.append_assoc, show acR (upr f) near x3.toInt (lrn x4).toInt x6 a c hmI ((T (S.getD i ([], 0)) f).getD x (0, 0, 0)) ((T (S.getD j ([], 0)) g).getD y (0, 0, 0)) = [_] from if_pos hcon]
               first
                 | (rw [if_pos (sv_ifn c_208)]; exact c9)
                 | (rw [if_neg (sv_ift c_208)]; exact c9))
            | (refine ih (y + 1) _ (by omega) fr ?_
               rw [flT_s hy, show acR (upr f) near x3.toInt (lrn x4).toInt x6 a c hmI ((T (S.getD i ([], 0)) f).getD x (0, 0, 0)) ((T (S.getD j ([], 0)) g).getD y (0, 0, 0)) = [] from if_neg (fun r9 => (by
                 first
                   | exact absurd r9.2.2.2 (sv_ift c_198)
                   | (have q9 := c_187
                      rw [Int32.lt_iff_toInt_lt, iN_to (by omega) (by omega)] at q9
                      have r8 := r9.2.2.1
                      omega)
                   | (have q9 := Int32.not_lt.mp c_119
                      rw [Int32.le_iff_toInt_le, iN_to (by omega) (by omega)] at q9
                      have r8 := r9.2.1
                      omega)
                   | (have q9 := (iN_lt (a := (((T (S.getD j ([], 0)) g).getD y (0, 0, 0)).1 - ((T (S.getD i ([], 0)) f).getD x (0, 0, 0)).1)) (b := near) (by omega) (by omega) (by omega) (by omega)).mp c_107
                      have r8 := r9.1
                      omega))), List.append_nil]
               exact H)

set_option maxHeartbeats 4000000 in
set_option maxRecDepth 100000 in
theorem l_acO (G : sv_G) (Qr : Option Value → sv_h → Nat → Prop) (hb : sv_h) (z b : Nat) (k : Int32) (nc np pl : Nat) (R : Nat → Bool) (hm pa sz : Nat → Nat) (ly vo ar : Nat → Int32) (X Y : Nat → Nat → Int) (fc : Nat → Nat → Nat) (oc : Nat → Nat → Option Nat) (mp : Nat → mvT) (w3 : Bool) (T : List Nat × Nat → Nat → List (Int × Int × Int)) (S : List (List Nat × Nat)) (q t : Nat) (n0 : Int64) (kd : Nat) (l1 l2 x3 x4 x5 x6 : Int32) (K : ck_ G w3 b k nc np pl R hm pa sz ly vo ar X Y fc oc mp T S q t n0 kd l1 l2 x3 x4 x5 x6 hb) (hw : w3 = true) (hmI : Int) (hbm : bd hmI) (near : Int) (hnear : near = 0 ∨ near = 1) (a c : Int) (hba : bd a) (hbc : bd c) (i : Nat) (hi : i < S.length) (f : Nat) (hf : f < 4) (j : Nat) (hj : j < S.length) (g : Nat) (hg : g < 4) (E0 : List (List Int64)) (hk : ∀ h, (∀ a, ¬ (t ≤ a ∧ a < t + 4) → h a = hb a) → tE G h t (iN hmI) (E0 ++ (T (S.getD i ([], 0)) f).flatMap (fun s9 => (T (S.getD j ([], 0)) g).flatMap (fun t9 => acR (upr f) near x3.toInt (lrn x4).toInt x6 a c hmI s9 t9))) → Qr none h z) : ∀ (e x : Nat) (h : sv_h), x + e = (T (S.getD i ([], 0)) f).length → (∀ a, ¬ (t ≤ a ∧ a < t + 4) → h a = hb a) → tE G h t (iN hmI) (E0 ++ flT (fun s9 => (T (S.getD j ([], 0)) g).flatMap (fun t9 => acR (upr f) near x3.toInt (lrn x4).toInt x6 a c hmI s9 t9)) (T (S.getD i ([], 0)) f) x) → V G mX1_across (sv_MQ G mX1_across Qr) 54 [(10, .int (nI (st_ T S i f + x))), (9, .int (nI (st_ T S j (g + 1)))), (8, .int (nI (st_ T S i (f + 1)))), (7, .int (iN near)), (6, .int (iN c)), (5, .int (iN a)), (4, .int (nI g)), (3, .int (nI j)), (2, .int (nI f)), (1, .int (nI i)), (0, .ref (b + 32))] [] h z 0 0 := by
  intro e
  induction e with
  | zero =>
    intro x h hxe fr H
    obtain ⟨Z, ⟨⟨fb, fcx, fcy, k1, k2, k3, k4⟩, ⟨fs9, fa, fr9, ft, k5, k6, k7, k8, k9, kA, kB⟩, ⟨fsp, kC⟩, _⟩, kD, kE, kF, kG, kH, kI⟩ := id K
    obtain ⟨z0, z1, ⟨fs, z2, z3⟩, ⟨fb_, z4, z5⟩, ⟨fl, z6, z7⟩, z8, z9, ⟨fq, zA, zB⟩, zC, zD, zE, zF⟩ := id Z
    have w1 := (fr (b + 35) (by omega)).trans z1
    have w2 : ab_I G h (b + 37) 100 fs := (fr _ (by omega)).trans z2
    have w4 : ab_I G h (b + 38) 100 fb_ := (fr _ (by omega)).trans z4
    have w6 : ab_Q G h (b + 39) 3 100 fl := (fr _ (by omega)).trans z6
    have w9 := (fr (b + 1) (by omega)).trans z9
    have wA : ab_Q G h (b + 2) 4 64 fq := (fr _ (by omega)).trans zA
    have wB : ab_I G h (b + 40) 400 fb := (fr _ (by omega)).trans k1
    have wC : ab_I G h (b + 44) 401 fs9 := (fr _ (by omega)).trans k5
    have wD : ab_I G h (b + 45) 1600 fa := (fr _ (by omega)).trans k6
    have wE : ab_I G h (b + 46) 1600 fr9 := (fr _ (by omega)).trans k7
    have wF : ab_I G h (b + 47) 1600 ft := (fr _ (by omega)).trans k8
    have wG := (fr (b + 32) (by omega)).trans kD
    have wH := (fr q (by omega)).trans kE
    obtain ⟨n1, n2⟩ := kI i hi f hf
    obtain ⟨n3, n4⟩ := kI j hj g hg
    rw [st_s] at n2 n4
    refine v_iload dX1_across_54 0 rfl ?_
    refine v_iload dX1_across_56 2 rfl ?_
    refine v_icmp_ge (tgt := 302) dX1_across_58 (by decide) (fun c_58 => ?_) (fun c_58 => ?_)
    · exact v_ret rfl dX1_across_302 (Nat.le_of_ble_eq_true rfl) (Nat.le_of_ble_eq_true rfl) (by
                have e9 : x = (T (S.getD i ([], 0)) f).length := by omega
                rw [e9, flT_all] at H
                exact hk h fr H)
    · exact absurd (nI_le (show st_ T S i (f + 1) ≤ st_ T S i f + x by rw [st_s]; omega) (by omega)) c_58
  | succ e ih =>
    intro x h hxe fr H
    obtain ⟨Z, ⟨⟨fb, fcx, fcy, k1, k2, k3, k4⟩, ⟨fs9, fa, fr9, ft, k5, k6, k7, k8, k9, kA, kB⟩, ⟨fsp, kC⟩, _⟩, kD, kE, kF, kG, kH, kI⟩ := id K
    obtain ⟨z0, z1, ⟨fs, z2, z3⟩, ⟨fb_, z4, z5⟩, ⟨fl, z6, z7⟩, z8, z9, ⟨fq, zA, zB⟩, zC, zD, zE, zF⟩ := id Z
    have w1 := (fr (b + 35) (by omega)).trans z1
    have w2 : ab_I G h (b + 37) 100 fs := (fr _ (by omega)).trans z2
    have w4 : ab_I G h (b + 38) 100 fb_ := (fr _ (by omega)).trans z4
    have w6 : ab_Q G h (b + 39) 3 100 fl := (fr _ (by omega)).trans z6
    have w9 := (fr (b + 1) (by omega)).trans z9
    have wA : ab_Q G h (b + 2) 4 64 fq := (fr _ (by omega)).trans zA
    have wB : ab_I G h (b + 40) 400 fb := (fr _ (by omega)).trans k1
    have wC : ab_I G h (b + 44) 401 fs9 := (fr _ (by omega)).trans k5
    have wD : ab_I G h (b + 45) 1600 fa := (fr _ (by omega)).trans k6
    have wE : ab_I G h (b + 46) 1600 fr9 := (fr _ (by omega)).trans k7
    have wF : ab_I G h (b + 47) 1600 ft := (fr _ (by omega)).trans k8
    have wG := (fr (b + 32) (by omega)).trans kD
    have wH := (fr q (by omega)).trans kE
    obtain ⟨n1, n2⟩ := kI i hi f hf
    obtain ⟨n3, n4⟩ := kI j hj g hg
    rw [st_s] at n2 n4
    refine v_iload dX1_across_54 0 rfl ?_
    refine v_iload dX1_across_56 2 rfl ?_
    refine v_icmp_ge (tgt := 302) dX1_across_58 (by decide) (fun c_58 => ?_) (fun c_58 => ?_)
    · exact absurd c_58 (nI_ge (show st_ T S i f + x < st_ T S i (f + 1) by rw [st_s]; omega) (by rw [st_s]; omega))
    · refine v_aload_n dX1_across_61 rfl 10 rfl ?_
      refine v_getf 1 (ci := 0) (C := RX1) (T := TX1) (N := 6) rfl iwX1_across_X1 (Nat.le_of_ble_eq_true rfl) (by decide +kernel) dX1_across_62 (by first | with_reducible assumption) rfl ?_
      refine v_iload_n dX1_across_65 rfl 7 rfl ?_
      refine v_iload dX1_across_66 6 rfl ?_
      refine v_callVq (M' := mX8_begin) (n := 2) (As := [_, _]) (ci := 6) (r := (RX8, TX8, 14)) gX1_across_X8_begin rfl (by decide +kernel) ⟨(Nat.le_of_ble_eq_true rfl), (Nat.le_of_ble_eq_true rfl)⟩ rfl rfl dX1_across_68 rfl ⟨(Nat.le_of_ble_eq_true rfl), (Nat.le_of_ble_eq_true rfl)⟩ (Nat.le_of_ble_eq_true rfl) (by first | with_reducible assumption) rfl (c_begin G hb _ b k nc np pl R hm pa sz ly vo ar X Y fc oc mp w3 T S q t n0 kd l1 l2 x3 x4 x5 x6 K h fr j hj g hg) (fun v h1 z1 hq => v_pq hq ?_)
      refine v_istore (L' := [(11, _), (10, _), (9, _), (8, _), (7, _), (6, _), (5, _), (4, _), (3, _), (2, _), (1, _), (0, _)]) dX1_across_71 (Nat.le_of_ble_eq_true rfl) rfl ?_
      refine v_sub (L' := [(11, _), (10, _), (9, _), (8, _), (7, _), (6, _), (5, _), (4, _), (3, _), (2, _), (1, _), (0, _)]) [0, 1, 2, 3, 4, 5, 6, 7, 8, 9, 10, 11] rfl ?_
      refine l_acI G Qr hb _ b k nc np pl R hm pa sz ly vo ar X Y fc oc mp w3 T S q t n0 kd l1 l2 x3 x4 x5 x6 K hw hmI hbm near hnear a c hba hbc i hi f hf j hj g hg x (by omega) (E0 ++ flT (fun s9 => (T (S.getD j ([], 0)) g).flatMap (fun t9 => acR (upr f) near x3.toInt (lrn x4).toInt x6 a c hmI s9 t9)) (T (S.getD i ([], 0)) f) x) (fun h2 fr2 H2 => ?_) (T (S.getD j ([], 0)) g).length 0 h (by omega) fr (by rw [show flT (acR (upr f) near x3.toInt (lrn x4).toInt x6 a c hmI ((T (S.getD i ([], 0)) f).getD x (0, 0, 0))) (T (S.getD j ([], 0)) g) 0 = [] from rfl, List.append_nil]; exact H)
      refine v_iinc (j := 0) (L' := [(10, _), (9, _), (8, _), (7, _), (6, _), (5, _), (4, _), (3, _), (2, _), (1, _), (0, _)]) (v := nI (st_ T S i f + (x + 1))) dX1_across_296 rfl (nI_1 _) (Nat.le_of_ble_eq_true rfl) rfl ?_
      refine v_goto (tgt := 54) dX1_across_299 (by decide) ?_
      refine v_sub (L' := [(10, _), (9, _), (8, _), (7, _), (6, _), (5, _), (4, _), (3, _), (2, _), (1, _), (0, _)]) [0, 1, 2, 3, 4, 5, 6, 7, 8, 9, 10] rfl ?_
      refine ih (x + 1) h2 (by omega) fr2 ?_
      rw [flT_s (show x < (T (S.getD i ([], 0)) f).length by omega), ← List.append_assoc]
      exact H2

set_option maxHeartbeats 4000000 in
set_option maxRecDepth 100000 in
theorem c_across0 (G : sv_G) (hki : sv_ki G) (hb : sv_h) (z b : Nat) (k : Int32) (nc np pl : Nat) (R : Nat → Bool) (hm pa sz : Nat → Nat) (ly vo ar : Nat → Int32) (X Y : Nat → Nat → Int) (fc : Nat → Nat → Nat) (oc : Nat → Nat → Option Nat) (mp : Nat → mvT) (w3 : Bool) (T : List Nat × Nat → Nat → List (Int × Int × Int)) (S : List (List Nat × Nat)) (q t : Nat) (n0 : Int64) (kd : Nat) (l1 l2 x3 x4 x5 x6 : Int32) (K : ck_ G w3 b k nc np pl R hm pa sz ly vo ar X Y fc oc mp T S q t n0 kd l1 l2 x3 x4 x5 x6 hb) (hw : w3 = true) (hmI : Int) (hbm : bd hmI) (a c : Int) (hba : bd a) (hbc : bd c) (i : Nat) (hi : i < S.length) (f : Nat) (hf : f < 4) (j : Nat) (hj : j < S.length) (g : Nat) (hg : g < 4) (hn9 : kd = 9) (h : sv_h) (fr : ∀ a, ¬ (t ≤ a ∧ a < t + 4) → h a = hb a) (E0 : List (List Int64)) (H : tE G h t (iN hmI) E0) : CT G mX1_across [.ref (b + 32), .int (nI i), .int (nI f), .int (nI j), .int (nI g), .int (iN a), .int (iN c)] h z (fun v h1 z1 => v = none ∧ z1 = z ∧ tE G h1 t (iN hmI) (E0 ++ (T (S.getD i ([], 0)) f).flatMap (fun s9 => (T (S.getD j ([], 0)) g).flatMap (fun t9 => acR (upr f) 0 x3.toInt (lrn x4).toInt x6 a c hmI s9 t9))) ∧ ∀ a, ¬ (t ≤ a ∧ a < t + 4) → h1 a = hb a) := by
  refine CT.of (by decide +kernel) rfl rfl (Nat.le_of_ble_eq_true rfl) ?_
  obtain ⟨Z, ⟨⟨fb, fcx, fcy, k1, k2, k3, k4⟩, ⟨fs9, fa, fr9, ft, k5, k6, k7, k8, k9, kA, kB⟩, ⟨fsp, kC⟩, _⟩, kD, kE, kF, kG, kH, kI⟩ := id K
  obtain ⟨z0, z1, ⟨fs, z2, z3⟩, ⟨fb_, z4, z5⟩, ⟨fl, z6, z7⟩, z8, z9, ⟨fq, zA, zB⟩, zC, zD, zE, zF⟩ := id Z
  have w1 := (fr (b + 35) (by omega)).trans z1
  have w2 : ab_I G h (b + 37) 100 fs := (fr _ (by omega)).trans z2
  have w4 : ab_I G h (b + 38) 100 fb_ := (fr _ (by omega)).trans z4
  have w6 : ab_Q G h (b + 39) 3 100 fl := (fr _ (by omega)).trans z6
  have w9 := (fr (b + 1) (by omega)).trans z9
  have wA : ab_Q G h (b + 2) 4 64 fq := (fr _ (by omega)).trans zA
  have wB : ab_I G h (b + 40) 400 fb := (fr _ (by omega)).trans k1
  have wC : ab_I G h (b + 44) 401 fs9 := (fr _ (by omega)).trans k5
  have wD : ab_I G h (b + 45) 1600 fa := (fr _ (by omega)).trans k6
  have wE : ab_I G h (b + 46) 1600 fr9 := (fr _ (by omega)).trans k7
  have wF : ab_I G h (b + 47) 1600 ft := (fr _ (by omega)).trans k8
  have wG := (fr (b + 32) (by omega)).trans kD
  have wH := (fr q (by omega)).trans kE
  refine v_aload_n dX1_across_0 rfl 0 rfl ?_
  refine v_getf 4 (ci := 0) (C := RX1) (T := TX1) (N := 6) rfl iwX1_across_X1 (Nat.le_of_ble_eq_true rfl) (by decide +kernel) dX1_across_1 (by first | with_reducible assumption) rfl ?_
  refine v_getf 1 (ci := 5) (C := RX7) (T := TX7) (N := 8) rfl iwX1_across_X7 (Nat.le_of_ble_eq_true rfl) (by decide +kernel) dX1_across_4 (by first | with_reducible assumption) rfl ?_
  refine v_getk (i := 9) (nm := "ENCLOSE") (by decide +kernel) (by decide +kernel) dX1_across_7 ?_
  refine v_acmp_ne (rx := some (G.2.2.2.2.1 kd)) (ry := some (G.2.2.2.2.1 9)) (tgt := 17) dX1_across_10 (by decide) (fun c_10 => ?_) (fun c_10 => ?_)
  · exact absurd (by rw [hn9]) c_10
  · refine v_iconst (v := 0) dX1_across_13 (by decide) ?_
    refine v_goto (tgt := 18) dX1_across_14 (by decide) ?_
    refine v_istore (L' := [(7, _), (0, _), (1, _), (2, _), (3, _), (4, _), (5, _), (6, _)]) dX1_across_18 (Nat.le_of_ble_eq_true rfl) rfl ?_
    refine v_aload_n dX1_across_20 rfl 1 rfl ?_
    refine v_getf 1 (ci := 0) (C := RX1) (T := TX1) (N := 6) rfl iwX1_across_X1 (Nat.le_of_ble_eq_true rfl) (by decide +kernel) dX1_across_21 (by first | with_reducible assumption) rfl ?_
    refine v_iload_n dX1_across_24 rfl 2 rfl ?_
    refine v_iload_n dX1_across_25 rfl 3 rfl ?_
    refine v_callVq (M' := mX8_end) (n := 2) (As := [_, _]) (ci := 6) (r := (RX8, TX8, 14)) gX1_across_X8_end rfl (by decide +kernel) ⟨(Nat.le_of_ble_eq_true rfl), (Nat.le_of_ble_eq_true rfl)⟩ rfl rfl dX1_across_26 rfl ⟨(Nat.le_of_ble_eq_true rfl), (Nat.le_of_ble_eq_true rfl)⟩ (Nat.le_of_ble_eq_true rfl) (by first | with_reducible assumption) rfl (c_end G hb _ b k nc np pl R hm pa sz ly vo ar X Y fc oc mp w3 T S q t n0 kd l1 l2 x3 x4 x5 x6 K h fr i hi f hf) (fun v h1 z1 hq => v_pq hq ?_)
    refine v_istore (L' := [(8, _), (7, _), (0, _), (1, _), (2, _), (3, _), (4, _), (5, _), (6, _)]) dX1_across_29 (Nat.le_of_ble_eq_true rfl) rfl ?_
    refine v_aload_n dX1_across_31 rfl 2 rfl ?_
    refine v_getf 1 (ci := 0) (C := RX1) (T := TX1) (N := 6) rfl iwX1_across_X1 (Nat.le_of_ble_eq_true rfl) (by decide +kernel) dX1_across_32 (by first | with_reducible assumption) rfl ?_
    refine v_iload_n dX1_across_35 rfl 5 rfl ?_
    refine v_iload dX1_across_36 6 rfl ?_
    refine v_callVq (M' := mX8_end) (n := 2) (As := [_, _]) (ci := 6) (r := (RX8, TX8, 14)) gX1_across_X8_end rfl (by decide +kernel) ⟨(Nat.le_of_ble_eq_true rfl), (Nat.le_of_ble_eq_true rfl)⟩ rfl rfl dX1_across_38 rfl ⟨(Nat.le_of_ble_eq_true rfl), (Nat.le_of_ble_eq_true rfl)⟩ (Nat.le_of_ble_eq_true rfl) (by first | with_reducible assumption) rfl (c_end G hb _ b k nc np pl R hm pa sz ly vo ar X Y fc oc mp w3 T S q t n0 kd l1 l2 x3 x4 x5 x6 K h fr j hj g hg) (fun v h1 z1 hq => v_pq hq ?_)
    refine v_istore (L' := [(9, _), (8, _), (7, _), (0, _), (1, _), (2, _), (3, _), (4, _), (5, _), (6, _)]) dX1_across_41 (Nat.le_of_ble_eq_true rfl) rfl ?_
    refine v_aload_n dX1_across_43 rfl 3 rfl ?_
    refine v_getf 1 (ci := 0) (C := RX1) (T := TX1) (N := 6) rfl iwX1_across_X1 (Nat.le_of_ble_eq_true rfl) (by decide +kernel) dX1_across_44 (by first | with_reducible assumption) rfl ?_
    refine v_iload_n dX1_across_47 rfl 4 rfl ?_
    refine v_iload_n dX1_across_48 rfl 5 rfl ?_
    refine v_callVq (M' := mX8_begin) (n := 2) (As := [_, _]) (ci := 6) (r := (RX8, TX8, 14)) gX1_across_X8_begin rfl (by decide +kernel) ⟨(Nat.le_of_ble_eq_true rfl), (Nat.le_of_ble_eq_true rfl)⟩ rfl rfl dX1_across_49 rfl ⟨(Nat.le_of_ble_eq_true rfl), (Nat.le_of_ble_eq_true rfl)⟩ (Nat.le_of_ble_eq_true rfl) (by first | with_reducible assumption) rfl (c_begin G hb _ b k nc np pl R hm pa sz ly vo ar X Y fc oc mp w3 T S q t n0 kd l1 l2 x3 x4 x5 x6 K h fr i hi f hf) (fun v h1 z1 hq => v_pq hq ?_)
    refine v_istore (L' := [(10, _), (9, _), (8, _), (7, _), (0, _), (1, _), (2, _), (3, _), (4, _), (5, _), (6, _)]) dX1_across_52 (Nat.le_of_ble_eq_true rfl) rfl ?_
    refine v_sub (L' := [(10, _), (9, _), (8, _), (7, _), (6, _), (5, _), (4, _), (3, _), (2, _), (1, _), (0, _)]) [0, 1, 2, 3, 10, 9, 8, 7, 6, 5, 4] rfl ?_
    exact l_acO G _ hb _ b k nc np pl R hm pa sz ly vo ar X Y fc oc mp w3 T S q t n0 kd l1 l2 x3 x4 x5 x6 K hw hmI hbm 0 (by decide) a c hba hbc i hi f hf j hj g hg E0 (fun h2 fr2 H2 => ⟨rfl, rfl, H2, fr2⟩) (T (S.getD i ([], 0)) f).length 0 h (by omega) fr (by rw [show flT (fun s9 => (T (S.getD j ([], 0)) g).flatMap (fun t9 => acR (upr f) 0 x3.toInt (lrn x4).toInt x6 a c hmI s9 t9)) (T (S.getD i ([], 0)) f) 0 = [] from rfl, List.append_nil]; exact H)

set_option maxHeartbeats 4000000 in
set_option maxRecDepth 100000 in
theorem c_across1 (G : sv_G) (hki : sv_ki G) (hb : sv_h) (z b : Nat) (k : Int32) (nc np pl : Nat) (R : Nat → Bool) (hm pa sz : Nat → Nat) (ly vo ar : Nat → Int32) (X Y : Nat → Nat → Int) (fc : Nat → Nat → Nat) (oc : Nat → Nat → Option Nat) (mp : Nat → mvT) (w3 : Bool) (T : List Nat × Nat → Nat → List (Int × Int × Int)) (S : List (List Nat × Nat)) (q t : Nat) (n0 : Int64) (kd : Nat) (l1 l2 x3 x4 x5 x6 : Int32) (K : ck_ G w3 b k nc np pl R hm pa sz ly vo ar X Y fc oc mp T S q t n0 kd l1 l2 x3 x4 x5 x6 hb) (hw : w3 = true) (hmI : Int) (hbm : bd hmI) (a c : Int) (hba : bd a) (hbc : bd c) (i : Nat) (hi : i < S.length) (f : Nat) (hf : f < 4) (j : Nat) (hj : j < S.length) (g : Nat) (hg : g < 4) (hn9 : kd ≠ 9) (h : sv_h) (fr : ∀ a, ¬ (t ≤ a ∧ a < t + 4) → h a = hb a) (E0 : List (List Int64)) (H : tE G h t (iN hmI) E0) : CT G mX1_across [.ref (b + 32), .int (nI i), .int (nI f), .int (nI j), .int (nI g), .int (iN a), .int (iN c)] h z (fun v h1 z1 => v = none ∧ z1 = z ∧ tE G h1 t (iN hmI) (E0 ++ (T (S.getD i ([], 0)) f).flatMap (fun s9 => (T (S.getD j ([], 0)) g).flatMap (fun t9 => acR (upr f) 1 x3.toInt (lrn x4).toInt x6 a c hmI s9 t9))) ∧ ∀ a, ¬ (t ≤ a ∧ a < t + 4) → h1 a = hb a) := by
  refine CT.of (by decide +kernel) rfl rfl (Nat.le_of_ble_eq_true rfl) ?_
  obtain ⟨Z, ⟨⟨fb, fcx, fcy, k1, k2, k3, k4⟩, ⟨fs9, fa, fr9, ft, k5, k6, k7, k8, k9, kA, kB⟩, ⟨fsp, kC⟩, _⟩, kD, kE, kF, kG, kH, kI⟩ := id K
  obtain ⟨z0, z1, ⟨fs, z2, z3⟩, ⟨fb_, z4, z5⟩, ⟨fl, z6, z7⟩, z8, z9, ⟨fq, zA, zB⟩, zC, zD, zE, zF⟩ := id Z
  have w1 := (fr (b + 35) (by omega)).trans z1
  have w2 : ab_I G h (b + 37) 100 fs := (fr _ (by omega)).trans z2
  have w4 : ab_I G h (b + 38) 100 fb_ := (fr _ (by omega)).trans z4
  have w6 : ab_Q G h (b + 39) 3 100 fl := (fr _ (by omega)).trans z6
  have w9 := (fr (b + 1) (by omega)).trans z9
  have wA : ab_Q G h (b + 2) 4 64 fq := (fr _ (by omega)).trans zA
  have wB : ab_I G h (b + 40) 400 fb := (fr _ (by omega)).trans k1
  have wC : ab_I G h (b + 44) 401 fs9 := (fr _ (by omega)).trans k5
  have wD : ab_I G h (b + 45) 1600 fa := (fr _ (by omega)).trans k6
  have wE : ab_I G h (b + 46) 1600 fr9 := (fr _ (by omega)).trans k7
  have wF : ab_I G h (b + 47) 1600 ft := (fr _ (by omega)).trans k8
  have wG := (fr (b + 32) (by omega)).trans kD
  have wH := (fr q (by omega)).trans kE
  refine v_aload_n dX1_across_0 rfl 0 rfl ?_
  refine v_getf 4 (ci := 0) (C := RX1) (T := TX1) (N := 6) rfl iwX1_across_X1 (Nat.le_of_ble_eq_true rfl) (by decide +kernel) dX1_across_1 (by first | with_reducible assumption) rfl ?_
  refine v_getf 1 (ci := 5) (C := RX7) (T := TX7) (N := 8) rfl iwX1_across_X7 (Nat.le_of_ble_eq_true rfl) (by decide +kernel) dX1_across_4 (by first | with_reducible assumption) rfl ?_
  refine v_getk (i := 9) (nm := "ENCLOSE") (by decide +kernel) (by decide +kernel) dX1_across_7 ?_
  refine v_acmp_ne (rx := some (G.2.2.2.2.1 kd)) (ry := some (G.2.2.2.2.1 9)) (tgt := 17) dX1_across_10 (by decide) (fun c_10 => ?_) (fun c_10 => ?_)
  · refine v_iconst (v := 1) dX1_across_17 (by decide) ?_
    refine v_istore (L' := [(7, _), (0, _), (1, _), (2, _), (3, _), (4, _), (5, _), (6, _)]) dX1_across_18 (Nat.le_of_ble_eq_true rfl) rfl ?_
    refine v_aload_n dX1_across_20 rfl 1 rfl ?_
    refine v_getf 1 (ci := 0) (C := RX1) (T := TX1) (N := 6) rfl iwX1_across_X1 (Nat.le_of_ble_eq_true rfl) (by decide +kernel) dX1_across_21 (by first | with_reducible assumption) rfl ?_
    refine v_iload_n dX1_across_24 rfl 2 rfl ?_
    refine v_iload_n dX1_across_25 rfl 3 rfl ?_
    refine v_callVq (M' := mX8_end) (n := 2) (As := [_, _]) (ci := 6) (r := (RX8, TX8, 14)) gX1_across_X8_end rfl (by decide +kernel) ⟨(Nat.le_of_ble_eq_true rfl), (Nat.le_of_ble_eq_true rfl)⟩ rfl rfl dX1_across_26 rfl ⟨(Nat.le_of_ble_eq_true rfl), (Nat.le_of_ble_eq_true rfl)⟩ (Nat.le_of_ble_eq_true rfl) (by first | with_reducible assumption) rfl (c_end G hb _ b k nc np pl R hm pa sz ly vo ar X Y fc oc mp w3 T S q t n0 kd l1 l2 x3 x4 x5 x6 K h fr i hi f hf) (fun v h1 z1 hq => v_pq hq ?_)
    refine v_istore (L' := [(8, _), (7, _), (0, _), (1, _), (2, _), (3, _), (4, _), (5, _), (6, _)]) dX1_across_29 (Nat.le_of_ble_eq_true rfl) rfl ?_
    refine v_aload_n dX1_across_31 rfl 2 rfl ?_
    refine v_getf 1 (ci := 0) (C := RX1) (T := TX1) (N := 6) rfl iwX1_across_X1 (Nat.le_of_ble_eq_true rfl) (by decide +kernel) dX1_across_32 (by first | with_reducible assumption) rfl ?_
    refine v_iload_n dX1_across_35 rfl 5 rfl ?_
    refine v_iload dX1_across_36 6 rfl ?_
    refine v_callVq (M' := mX8_end) (n := 2) (As := [_, _]) (ci := 6) (r := (RX8, TX8, 14)) gX1_across_X8_end rfl (by decide +kernel) ⟨(Nat.le_of_ble_eq_true rfl), (Nat.le_of_ble_eq_true rfl)⟩ rfl rfl dX1_across_38 rfl ⟨(Nat.le_of_ble_eq_true rfl), (Nat.le_of_ble_eq_true rfl)⟩ (Nat.le_of_ble_eq_true rfl) (by first | with_reducible assumption) rfl (c_end G hb _ b k nc np pl R hm pa sz ly vo ar X Y fc oc mp w3 T S q t n0 kd l1 l2 x3 x4 x5 x6 K h fr j hj g hg) (fun v h1 z1 hq => v_pq hq ?_)
    refine v_istore (L' := [(9, _), (8, _), (7, _), (0, _), (1, _), (2, _), (3, _), (4, _), (5, _), (6, _)]) dX1_across_41 (Nat.le_of_ble_eq_true rfl) rfl ?_
    refine v_aload_n dX1_across_43 rfl 3 rfl ?_
    refine v_getf 1 (ci := 0) (C := RX1) (T := TX1) (N := 6) rfl iwX1_across_X1 (Nat.le_of_ble_eq_true rfl) (by decide +kernel) dX1_across_44 (by first | with_reducible assumption) rfl ?_
    refine v_iload_n dX1_across_47 rfl 4 rfl ?_
    refine v_iload_n dX1_across_48 rfl 5 rfl ?_
    refine v_callVq (M' := mX8_begin) (n := 2) (As := [_, _]) (ci := 6) (r := (RX8, TX8, 14)) gX1_across_X8_begin rfl (by decide +kernel) ⟨(Nat.le_of_ble_eq_true rfl), (Nat.le_of_ble_eq_true rfl)⟩ rfl rfl dX1_across_49 rfl ⟨(Nat.le_of_ble_eq_true rfl), (Nat.le_of_ble_eq_true rfl)⟩ (Nat.le_of_ble_eq_true rfl) (by first | with_reducible assumption) rfl (c_begin G hb _ b k nc np pl R hm pa sz ly vo ar X Y fc oc mp w3 T S q t n0 kd l1 l2 x3 x4 x5 x6 K h fr i hi f hf) (fun v h1 z1 hq => v_pq hq ?_)
    refine v_istore (L' := [(10, _), (9, _), (8, _), (7, _), (0, _), (1, _), (2, _), (3, _), (4, _), (5, _), (6, _)]) dX1_across_52 (Nat.le_of_ble_eq_true rfl) rfl ?_
    refine v_sub (L' := [(10, _), (9, _), (8, _), (7, _), (6, _), (5, _), (4, _), (3, _), (2, _), (1, _), (0, _)]) [0, 1, 2, 3, 10, 9, 8, 7, 6, 5, 4] rfl ?_
    exact l_acO G _ hb _ b k nc np pl R hm pa sz ly vo ar X Y fc oc mp w3 T S q t n0 kd l1 l2 x3 x4 x5 x6 K hw hmI hbm 1 (by decide) a c hba hbc i hi f hf j hj g hg E0 (fun h2 fr2 H2 => ⟨rfl, rfl, H2, fr2⟩) (T (S.getD i ([], 0)) f).length 0 h (by omega) fr (by rw [show flT (fun s9 => (T (S.getD j ([], 0)) g).flatMap (fun t9 => acR (upr f) 1 x3.toInt (lrn x4).toInt x6 a c hmI s9 t9)) (T (S.getD i ([], 0)) f) 0 = [] from rfl, List.append_nil]; exact H)
  · exact absurd (hki kd 9 kF (by decide) (Option.some.inj c_10)) hn9

theorem c_across (G : sv_G) (hki : sv_ki G) (hb : sv_h) (z b : Nat) (k : Int32) (nc np pl : Nat) (R : Nat → Bool) (hm pa sz : Nat → Nat) (ly vo ar : Nat → Int32) (X Y : Nat → Nat → Int) (fc : Nat → Nat → Nat) (oc : Nat → Nat → Option Nat) (mp : Nat → mvT) (w3 : Bool) (T : List Nat × Nat → Nat → List (Int × Int × Int)) (S : List (List Nat × Nat)) (q t : Nat) (n0 : Int64) (kd : Nat) (l1 l2 x3 x4 x5 x6 : Int32) (K : ck_ G w3 b k nc np pl R hm pa sz ly vo ar X Y fc oc mp T S q t n0 kd l1 l2 x3 x4 x5 x6 hb) (hw : w3 = true) (hmI : Int) (hbm : bd hmI) (a c : Int) (hba : bd a) (hbc : bd c) (i : Nat) (hi : i < S.length) (f : Nat) (hf : f < 4) (j : Nat) (hj : j < S.length) (g : Nat) (hg : g < 4) (h : sv_h) (fr : ∀ a, ¬ (t ≤ a ∧ a < t + 4) → h a = hb a) (E0 : List (List Int64)) (H : tE G h t (iN hmI) E0) : CT G mX1_across [.ref (b + 32), .int (nI i), .int (nI f), .int (nI j), .int (nI g), .int (iN a), .int (iN c)] h z (fun v h1 z1 => v = none ∧ z1 = z ∧ tE G h1 t (iN hmI) (E0 ++ acL (upr f) (if kd = 9 then 0 else 1) x3.toInt (lrn x4).toInt x6 a c hmI (T (S.getD i ([], 0)) f) (T (S.getD j ([], 0)) g)) ∧ ∀ a, ¬ (t ≤ a ∧ a < t + 4) → h1 a = hb a) := by
  by_cases e9 : kd = 9
  · rw [if_pos e9]
    exact c_across0 G hki hb z b k nc np pl R hm pa sz ly vo ar X Y fc oc mp w3 T S q t n0 kd l1 l2 x3 x4 x5 x6 K hw hmI hbm a c hba hbc i hi f hf j hj g hg e9 h fr E0 H
  · rw [if_neg e9]
    exact c_across1 G hki hb z b k nc np pl R hm pa sz ly vo ar X Y fc oc mp w3 T S q t n0 kd l1 l2 x3 x4 x5 x6 K hw hmI hbm a c hba hbc i hi f hf j hj g hg e9 h fr E0 H
