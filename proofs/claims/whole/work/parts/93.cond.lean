theorem iwX13_condition_X13 : ∀ w ∈ wsX130, w ∈ wsX13_condition := by decide +kernel
set_option maxRecDepth 20000 in
theorem ggX13_condition_X13_name : GoodIn wsX13_condition wsX13_name := goodIn_r _ [10, 11, 12, 13, 14, 15, 16, 17, 9, 18, 42, 43, 44, 45, 46, 47, 48, 49, 50, 51, 52, 53, 54, 55, 56, 57, 58, 59, 60, 61, 62, 63, 64, 65, 66, 67, 68, 69, 70, 71, 72, 73, 74, 75, 76, 77, 78, 79, 80, 81, 82, 83, 84, 85, 86, 87, 88, 89, 90, 91, 92, 93, 94, 95, 96, 97, 98, 99, 100, 101, 102, 103, 104, 105, 106, 107, 108, 109, 110, 111, 112] (by decide +kernel) (by decide +kernel)
set_option maxRecDepth 20000 in
theorem gX13_condition_X13_name : GoodIn wsX13_condition (wsV RX13 422 RX13 yX13_name wsX13_name) := goodIn_app (goodIn_of _ (by decide +kernel)) ggX13_condition_X13_name
set_option maxRecDepth 20000 in
theorem ggX13_condition_X13_word : GoodIn wsX13_condition wsX13_word := goodIn_r _ [21, 14, 15] (by decide +kernel) (by decide +kernel)
set_option maxRecDepth 20000 in
theorem ggX13_condition_X13_take_ : GoodIn wsX13_condition wsX13_take_ := goodIn_r _ [25, 26, 27, 28, 29, 9, 30, 31, 12, 11, 32, 13, 16, 17, 18, 33, 34, 35, 42, 43, 44, 45, 46, 47, 48, 49, 50, 51, 52, 53, 54, 55, 56, 57, 58, 59, 60, 61, 62, 63, 64, 65, 66, 67, 68, 69, 70, 71, 72, 73, 74, 75, 76, 77, 78, 79, 80, 81, 82, 83, 84, 85, 86, 87, 88, 89, 90, 91, 92, 93, 94, 95, 96, 97, 98, 99, 100, 101, 102, 103, 104, 105, 106, 107, 108, 109, 110, 111, 112] (by decide +kernel) (by decide +kernel)
set_option maxRecDepth 20000 in
theorem gX13_condition_X13_take_ : GoodIn wsX13_condition (wsV RX13 412 RX13 yX13_take_ wsX13_take_) := goodIn_app (goodIn_of _ (by decide +kernel)) ggX13_condition_X13_take_
set_option maxRecDepth 20000 in
theorem ggX13_condition_X13_number : GoodIn wsX13_condition wsX13_number := goodIn_r _ [39, 11, 12, 13, 40, 41, 33, 34, 9, 35, 22, 23, 24, 25, 26, 27, 28, 29, 30, 31, 32, 16, 17, 18, 42, 43, 44, 45, 46, 47, 48, 49, 50, 51, 52, 53, 54, 55, 56, 57, 58, 59, 60, 61, 62, 63, 64, 65, 66, 67, 68, 69, 70, 71, 72, 73, 74, 75, 76, 77, 78, 79, 80, 81, 82, 83, 84, 85, 86, 87, 88, 89, 90, 91, 92, 93, 94, 95, 96, 97, 98, 99, 100, 101, 102, 103, 104, 105, 106, 107, 108, 109, 110, 111, 112] (by decide +kernel) (by decide +kernel)
set_option maxRecDepth 20000 in
theorem gX13_condition_X13_number : GoodIn wsX13_condition (wsV RX13 437 RX13 yX13_number wsX13_number) := goodIn_app (goodIn_of _ (by decide +kernel)) ggX13_condition_X13_number
theorem dX13_condition_0 : decode cX13_condition 0 = .ok (.aload_n 0, 1) := by decide +kernel
theorem dX13_condition_1 : decode cX13_condition 1 = .ok (.getfield 47, 3) := by decide +kernel
theorem dX13_condition_4 : decode cX13_condition 4 = .ok (.iload_n 1, 1) := by decide +kernel
theorem dX13_condition_5 : decode cX13_condition 5 = .ok (.iaload, 1) := by decide +kernel
theorem dX13_condition_6 : decode cX13_condition 6 = .ok (.istore_n 2, 1) := by decide +kernel
theorem dX13_condition_7 : decode cX13_condition 7 = .ok (.aload_n 0, 1) := by decide +kernel
theorem dX13_condition_8 : decode cX13_condition 8 = .ok (.invokevirtual 422, 3) := by decide +kernel
theorem dX13_condition_11 : decode cX13_condition 11 = .ok (.lstore_n 3, 1) := by decide +kernel
theorem dX13_condition_12 : decode cX13_condition 12 = .ok (.lload_n 3, 1) := by decide +kernel
theorem dX13_condition_13 : decode cX13_condition 13 = .ok (.bipush 114, 2) := by decide +kernel
theorem dX13_condition_15 : decode cX13_condition 15 = .ok (.bipush 117, 2) := by decide +kernel
theorem dX13_condition_17 : decode cX13_condition 17 = .ok (.bipush 110, 2) := by decide +kernel
theorem dX13_condition_19 : decode cX13_condition 19 = .ok (.iconst 0, 1) := by decide +kernel
theorem dX13_condition_20 : decode cX13_condition 20 = .ok (.iconst 0, 1) := by decide +kernel
theorem dX13_condition_21 : decode cX13_condition 21 = .ok (.invokestatic 415, 3) := by decide +kernel
theorem dX13_condition_24 : decode cX13_condition 24 = .ok (.lcmp, 1) := by decide +kernel
theorem dX13_condition_25 : decode cX13_condition 25 = .ok (.ifCond .ne 45, 3) := by decide +kernel
theorem dX13_condition_28 : decode cX13_condition 28 = .ok (.aload_n 0, 1) := by decide +kernel
theorem dX13_condition_29 : decode cX13_condition 29 = .ok (.getfield 59, 3) := by decide +kernel
theorem dX13_condition_32 : decode cX13_condition 32 = .ok (.iload_n 1, 1) := by decide +kernel
theorem dX13_condition_33 : decode cX13_condition 33 = .ok (.laload, 1) := by decide +kernel
theorem dX13_condition_34 : decode cX13_condition 34 = .ok (.lconst 0, 1) := by decide +kernel
theorem dX13_condition_35 : decode cX13_condition 35 = .ok (.lcmp, 1) := by decide +kernel
theorem dX13_condition_36 : decode cX13_condition 36 = .ok (.ifCond .ge 34, 3) := by decide +kernel
theorem dX13_condition_39 : decode cX13_condition 39 = .ok (.iload_n 2, 1) := by decide +kernel
theorem dX13_condition_40 : decode cX13_condition 40 = .ok (.ifCond .eq 26, 3) := by decide +kernel
theorem dX13_condition_43 : decode cX13_condition 43 = .ok (.iload_n 2, 1) := by decide +kernel
theorem dX13_condition_44 : decode cX13_condition 44 = .ok (.iconst 1, 1) := by decide +kernel
theorem dX13_condition_45 : decode cX13_condition 45 = .ok (.if_icmp .eq 21, 3) := by decide +kernel
theorem dX13_condition_48 : decode cX13_condition 48 = .ok (.iload_n 2, 1) := by decide +kernel
theorem dX13_condition_49 : decode cX13_condition 49 = .ok (.bipush 7, 2) := by decide +kernel
theorem dX13_condition_51 : decode cX13_condition 51 = .ok (.if_icmp .eq 15, 3) := by decide +kernel
theorem dX13_condition_54 : decode cX13_condition 54 = .ok (.iload_n 2, 1) := by decide +kernel
theorem dX13_condition_55 : decode cX13_condition 55 = .ok (.bipush 9, 2) := by decide +kernel
theorem dX13_condition_57 : decode cX13_condition 57 = .ok (.if_icmp .eq 9, 3) := by decide +kernel
theorem dX13_condition_60 : decode cX13_condition 60 = .ok (.iload_n 2, 1) := by decide +kernel
theorem dX13_condition_61 : decode cX13_condition 61 = .ok (.bipush 10, 2) := by decide +kernel
theorem dX13_condition_63 : decode cX13_condition 63 = .ok (.if_icmp .ne 7, 3) := by decide +kernel
theorem dX13_condition_66 : decode cX13_condition 66 = .ok (.iconst 1, 1) := by decide +kernel
theorem dX13_condition_67 : decode cX13_condition 67 = .ok (.goto 4, 3) := by decide +kernel
theorem dX13_condition_70 : decode cX13_condition 70 = .ok (.iconst 0, 1) := by decide +kernel
theorem dX13_condition_71 : decode cX13_condition 71 = .ok (.istore 5, 2) := by decide +kernel
theorem dX13_condition_73 : decode cX13_condition 73 = .ok (.lload_n 3, 1) := by decide +kernel
theorem dX13_condition_74 : decode cX13_condition 74 = .ok (.bipush 118, 2) := by decide +kernel
theorem dX13_condition_76 : decode cX13_condition 76 = .ok (.bipush 111, 2) := by decide +kernel
theorem dX13_condition_78 : decode cX13_condition 78 = .ok (.bipush 108, 2) := by decide +kernel
theorem dX13_condition_80 : decode cX13_condition 80 = .ok (.bipush 116, 2) := by decide +kernel
theorem dX13_condition_82 : decode cX13_condition 82 = .ok (.iconst 0, 1) := by decide +kernel
theorem dX13_condition_83 : decode cX13_condition 83 = .ok (.invokestatic 415, 3) := by decide +kernel
theorem dX13_condition_86 : decode cX13_condition 86 = .ok (.lcmp, 1) := by decide +kernel
theorem dX13_condition_87 : decode cX13_condition 87 = .ok (.ifCond .ne 30, 3) := by decide +kernel
theorem dX13_condition_90 : decode cX13_condition 90 = .ok (.aload_n 0, 1) := by decide +kernel
theorem dX13_condition_91 : decode cX13_condition 91 = .ok (.getfield 62, 3) := by decide +kernel
theorem dX13_condition_94 : decode cX13_condition 94 = .ok (.iload_n 1, 1) := by decide +kernel
theorem dX13_condition_95 : decode cX13_condition 95 = .ok (.laload, 1) := by decide +kernel
theorem dX13_condition_96 : decode cX13_condition 96 = .ok (.lconst 0, 1) := by decide +kernel
theorem dX13_condition_97 : decode cX13_condition 97 = .ok (.lcmp, 1) := by decide +kernel
theorem dX13_condition_98 : decode cX13_condition 98 = .ok (.ifCond .ge 19, 3) := by decide +kernel
theorem dX13_condition_101 : decode cX13_condition 101 = .ok (.iload_n 2, 1) := by decide +kernel
theorem dX13_condition_102 : decode cX13_condition 102 = .ok (.bipush 7, 2) := by decide +kernel
theorem dX13_condition_104 : decode cX13_condition 104 = .ok (.if_icmp .eq 9, 3) := by decide +kernel
theorem dX13_condition_107 : decode cX13_condition 107 = .ok (.iload_n 2, 1) := by decide +kernel
theorem dX13_condition_108 : decode cX13_condition 108 = .ok (.bipush 8, 2) := by decide +kernel
theorem dX13_condition_110 : decode cX13_condition 110 = .ok (.if_icmp .ne 7, 3) := by decide +kernel
theorem dX13_condition_113 : decode cX13_condition 113 = .ok (.iconst 1, 1) := by decide +kernel
theorem dX13_condition_114 : decode cX13_condition 114 = .ok (.goto 4, 3) := by decide +kernel
theorem dX13_condition_117 : decode cX13_condition 117 = .ok (.iconst 0, 1) := by decide +kernel
theorem dX13_condition_118 : decode cX13_condition 118 = .ok (.istore 6, 2) := by decide +kernel
theorem dX13_condition_120 : decode cX13_condition 120 = .ok (.lload_n 3, 1) := by decide +kernel
theorem dX13_condition_121 : decode cX13_condition 121 = .ok (.bipush 101, 2) := by decide +kernel
theorem dX13_condition_123 : decode cX13_condition 123 = .ok (.bipush 110, 2) := by decide +kernel
theorem dX13_condition_125 : decode cX13_condition 125 = .ok (.bipush 100, 2) := by decide +kernel
theorem dX13_condition_127 : decode cX13_condition 127 = .ok (.iconst 0, 1) := by decide +kernel
theorem dX13_condition_128 : decode cX13_condition 128 = .ok (.iconst 0, 1) := by decide +kernel
theorem dX13_condition_129 : decode cX13_condition 129 = .ok (.invokestatic 415, 3) := by decide +kernel
theorem dX13_condition_132 : decode cX13_condition 132 = .ok (.lcmp, 1) := by decide +kernel
theorem dX13_condition_133 : decode cX13_condition 133 = .ok (.ifCond .ne 24, 3) := by decide +kernel
theorem dX13_condition_136 : decode cX13_condition 136 = .ok (.aload_n 0, 1) := by decide +kernel
theorem dX13_condition_137 : decode cX13_condition 137 = .ok (.getfield 65, 3) := by decide +kernel
theorem dX13_condition_140 : decode cX13_condition 140 = .ok (.iload_n 1, 1) := by decide +kernel
theorem dX13_condition_141 : decode cX13_condition 141 = .ok (.laload, 1) := by decide +kernel
theorem dX13_condition_142 : decode cX13_condition 142 = .ok (.lconst 0, 1) := by decide +kernel
theorem dX13_condition_143 : decode cX13_condition 143 = .ok (.lcmp, 1) := by decide +kernel
theorem dX13_condition_144 : decode cX13_condition 144 = .ok (.ifCond .ge 13, 3) := by decide +kernel
theorem dX13_condition_147 : decode cX13_condition 147 = .ok (.iload_n 2, 1) := by decide +kernel
theorem dX13_condition_148 : decode cX13_condition 148 = .ok (.bipush 7, 2) := by decide +kernel
theorem dX13_condition_150 : decode cX13_condition 150 = .ok (.if_icmp .ne 7, 3) := by decide +kernel
theorem dX13_condition_153 : decode cX13_condition 153 = .ok (.iconst 1, 1) := by decide +kernel
theorem dX13_condition_154 : decode cX13_condition 154 = .ok (.goto 4, 3) := by decide +kernel
theorem dX13_condition_157 : decode cX13_condition 157 = .ok (.iconst 0, 1) := by decide +kernel
theorem dX13_condition_158 : decode cX13_condition 158 = .ok (.istore 7, 2) := by decide +kernel
theorem dX13_condition_160 : decode cX13_condition 160 = .ok (.aload_n 0, 1) := by decide +kernel
theorem dX13_condition_161 : decode cX13_condition 161 = .ok (.iload 5, 2) := by decide +kernel
theorem dX13_condition_163 : decode cX13_condition 163 = .ok (.ifCond .ne 13, 3) := by decide +kernel
theorem dX13_condition_166 : decode cX13_condition 166 = .ok (.iload 6, 2) := by decide +kernel
theorem dX13_condition_168 : decode cX13_condition 168 = .ok (.ifCond .ne 8, 3) := by decide +kernel
theorem dX13_condition_171 : decode cX13_condition 171 = .ok (.iload 7, 2) := by decide +kernel
theorem dX13_condition_173 : decode cX13_condition 173 = .ok (.ifCond .eq 7, 3) := by decide +kernel
theorem dX13_condition_176 : decode cX13_condition 176 = .ok (.iconst 1, 1) := by decide +kernel
theorem dX13_condition_177 : decode cX13_condition 177 = .ok (.goto 4, 3) := by decide +kernel
theorem dX13_condition_180 : decode cX13_condition 180 = .ok (.iconst 0, 1) := by decide +kernel
theorem dX13_condition_181 : decode cX13_condition 181 = .ok (.invokevirtual 412, 3) := by decide +kernel
theorem dX13_condition_184 : decode cX13_condition 184 = .ok (.aload_n 0, 1) := by decide +kernel
theorem dX13_condition_185 : decode cX13_condition 185 = .ok (.ldc2_w 441, 3) := by decide +kernel
theorem dX13_condition_188 : decode cX13_condition 188 = .ok (.invokevirtual 437, 3) := by decide +kernel
theorem dX13_condition_191 : decode cX13_condition 191 = .ok (.lstore 8, 2) := by decide +kernel
theorem dX13_condition_193 : decode cX13_condition 193 = .ok (.aload_n 0, 1) := by decide +kernel
theorem dX13_condition_194 : decode cX13_condition 194 = .ok (.getfield 59, 3) := by decide +kernel
theorem dX13_condition_197 : decode cX13_condition 197 = .ok (.iload_n 1, 1) := by decide +kernel
theorem dX13_condition_198 : decode cX13_condition 198 = .ok (.iload 5, 2) := by decide +kernel
theorem dX13_condition_200 : decode cX13_condition 200 = .ok (.ifCond .eq 8, 3) := by decide +kernel
theorem dX13_condition_203 : decode cX13_condition 203 = .ok (.lload 8, 2) := by decide +kernel
theorem dX13_condition_205 : decode cX13_condition 205 = .ok (.goto 9, 3) := by decide +kernel
theorem dX13_condition_208 : decode cX13_condition 208 = .ok (.aload_n 0, 1) := by decide +kernel
theorem dX13_condition_209 : decode cX13_condition 209 = .ok (.getfield 59, 3) := by decide +kernel
theorem dX13_condition_212 : decode cX13_condition 212 = .ok (.iload_n 1, 1) := by decide +kernel
theorem dX13_condition_213 : decode cX13_condition 213 = .ok (.laload, 1) := by decide +kernel
theorem dX13_condition_214 : decode cX13_condition 214 = .ok (.lastore, 1) := by decide +kernel
theorem dX13_condition_215 : decode cX13_condition 215 = .ok (.aload_n 0, 1) := by decide +kernel
theorem dX13_condition_216 : decode cX13_condition 216 = .ok (.getfield 62, 3) := by decide +kernel
theorem dX13_condition_219 : decode cX13_condition 219 = .ok (.iload_n 1, 1) := by decide +kernel
theorem dX13_condition_220 : decode cX13_condition 220 = .ok (.iload 6, 2) := by decide +kernel
theorem dX13_condition_222 : decode cX13_condition 222 = .ok (.ifCond .eq 8, 3) := by decide +kernel
theorem dX13_condition_225 : decode cX13_condition 225 = .ok (.lload 8, 2) := by decide +kernel
theorem dX13_condition_227 : decode cX13_condition 227 = .ok (.goto 9, 3) := by decide +kernel
theorem dX13_condition_230 : decode cX13_condition 230 = .ok (.aload_n 0, 1) := by decide +kernel
theorem dX13_condition_231 : decode cX13_condition 231 = .ok (.getfield 62, 3) := by decide +kernel
theorem dX13_condition_234 : decode cX13_condition 234 = .ok (.iload_n 1, 1) := by decide +kernel
theorem dX13_condition_235 : decode cX13_condition 235 = .ok (.laload, 1) := by decide +kernel
theorem dX13_condition_236 : decode cX13_condition 236 = .ok (.lastore, 1) := by decide +kernel
theorem dX13_condition_237 : decode cX13_condition 237 = .ok (.aload_n 0, 1) := by decide +kernel
theorem dX13_condition_238 : decode cX13_condition 238 = .ok (.getfield 65, 3) := by decide +kernel
theorem dX13_condition_241 : decode cX13_condition 241 = .ok (.iload_n 1, 1) := by decide +kernel
theorem dX13_condition_242 : decode cX13_condition 242 = .ok (.iload 7, 2) := by decide +kernel
theorem dX13_condition_244 : decode cX13_condition 244 = .ok (.ifCond .eq 8, 3) := by decide +kernel
theorem dX13_condition_247 : decode cX13_condition 247 = .ok (.lload 8, 2) := by decide +kernel
theorem dX13_condition_249 : decode cX13_condition 249 = .ok (.goto 9, 3) := by decide +kernel
theorem dX13_condition_252 : decode cX13_condition 252 = .ok (.aload_n 0, 1) := by decide +kernel
theorem dX13_condition_253 : decode cX13_condition 253 = .ok (.getfield 65, 3) := by decide +kernel
theorem dX13_condition_256 : decode cX13_condition 256 = .ok (.iload_n 1, 1) := by decide +kernel
theorem dX13_condition_257 : decode cX13_condition 257 = .ok (.laload, 1) := by decide +kernel
theorem dX13_condition_258 : decode cX13_condition 258 = .ok (.lastore, 1) := by decide +kernel
theorem dX13_condition_259 : decode cX13_condition 259 = .ok (.return_, 1) := by decide +kernel

abbrev mX13_condition : sv_M := (cX13_condition, 10, yX13_condition, wsX13_condition, none, { frames := 50, cells := 0, slots := 0, locals := 3000 }, [])
set_option maxHeartbeats 4000000 in
set_option maxRecDepth 100000 in
theorem t_cond5 (G : sv_G) (Qr : Option Value → sv_h → Nat → Prop) (h : sv_h) (z b rr : Nat) (hrr : rr < 40) (F : List Value) (fr fv fe : Nat → Int64) (x : Int64) (hlen : F.length = 71) (hm : h (b + 220) = some (.inr (11, F))) (f_run : F[23]? = some (.ref (b + 237))) (f_volt : F[24]? = some (.ref (b + 238))) (f_end : F[25]? = some (.ref (b + 239))) (hr0 : ab_J G h (b + 237) 40 fr) (hv0 : ab_J G h (b + 238) 40 fv) (he0 : ab_J G h (b + 239) 40 fe) (w2 w5 w6 w7 : Int32) (w : Int64) (hk : ∀ h1 : sv_h, h1 (b + 220) = some (.inr (11, F)) → ab_J G h1 (b + 237) 40 (vp_updL fr rr (if w5 = 0 then fr rr else x)) → ab_J G h1 (b + 238) 40 (vp_updL fv rr (if w6 = 0 then fv rr else x)) → ab_J G h1 (b + 239) 40 (vp_updL fe rr (if w7 = 0 then fe rr else x)) → (∀ a, a ≠ b + 237 → a ≠ b + 238 → a ≠ b + 239 → h1 a = h a) → Qr none h1 z) : V G mX13_condition (sv_MQ G mX13_condition Qr) 193 [(8, .long x), (7, .int w7), (6, .int w6), (5, .int w5), (3, .long w), (2, .int w2), (0, .ref (b + 220)), (1, .int (nI rr))] [] h z 0 0 := by
  refine v_aload_n dX13_condition_193 rfl 6 rfl ?_
  refine v_getf 23 (ci := 11) (C := RX13) (T := TX13) (N := 71) rfl iwX13_condition_X13 (Nat.le_of_ble_eq_true rfl) (by decide +kernel) dX13_condition_194 (by repeat (first | with_reducible assumption | (with_reducible refine sv_us.trans ?_; exact rfl) | with_reducible refine (sv_un (by omega)).trans ?_)) (by repeat (first | with_reducible assumption | (with_reducible refine (sv_ls (by first | omega | (simp only [List.length_set]; omega))).trans ?_; exact rfl) | with_reducible refine (List.getElem?_set_ne (by decide)).trans ?_)) ?_
  refine v_iload_n dX13_condition_197 rfl 7 rfl ?_
  refine v_iload dX13_condition_198 3 rfl ?_
  refine v_if_eq (tgt := 208) dX13_condition_200 (by decide) (fun c_200 => ?_) (fun c_200 => ?_)
  · refine v_aload_n dX13_condition_208 rfl 6 rfl ?_
    refine v_getf 23 (ci := 11) (C := RX13) (T := TX13) (N := 71) rfl iwX13_condition_X13 (Nat.le_of_ble_eq_true rfl) (by decide +kernel) dX13_condition_209 (by repeat (first | with_reducible assumption | (with_reducible refine sv_us.trans ?_; exact rfl) | with_reducible refine (sv_un (by omega)).trans ?_)) (by repeat (first | with_reducible assumption | (with_reducible refine (sv_ls (by first | omega | (simp only [List.length_set]; omega))).trans ?_; exact rfl) | with_reducible refine (List.getElem?_set_ne (by decide)).trans ?_)) ?_
    refine v_iload_n dX13_condition_212 rfl 7 rfl ?_
    refine v_laldS (v := fr rr) dX13_condition_213 (by repeat (first | with_reducible assumption | (with_reducible refine sv_us.trans ?_; exact rfl) | with_reducible refine (sv_un (by omega)).trans ?_)) (vp_in_nI hrr (by omega)) (by rw [nI_clamp (by omega)]) ?_
    refine v_last dX13_condition_214 (by repeat (first | with_reducible assumption | (with_reducible refine sv_us.trans ?_; exact rfl) | with_reducible refine (sv_un (by omega)).trans ?_)) (vp_in_nI hrr (by omega)) ?_
    refine v_aload_n dX13_condition_215 rfl 6 rfl ?_
    refine v_getf 24 (ci := 11) (C := RX13) (T := TX13) (N := 71) rfl iwX13_condition_X13 (Nat.le_of_ble_eq_true rfl) (by decide +kernel) dX13_condition_216 (by repeat (first | with_reducible assumption | (with_reducible refine sv_us.trans ?_; exact rfl) | with_reducible refine (sv_un (by omega)).trans ?_)) (by repeat (first | with_reducible assumption | (with_reducible refine (sv_ls (by first | omega | (simp only [List.length_set]; omega))).trans ?_; exact rfl) | with_reducible refine (List.getElem?_set_ne (by decide)).trans ?_)) ?_
    refine v_iload_n dX13_condition_219 rfl 7 rfl ?_
    refine v_iload dX13_condition_220 2 rfl ?_
    refine v_if_eq (tgt := 230) dX13_condition_222 (by decide) (fun c_222 => ?_) (fun c_222 => ?_)
    · refine v_aload_n dX13_condition_230 rfl 6 rfl ?_
      refine v_getf 24 (ci := 11) (C := RX13) (T := TX13) (N := 71) rfl iwX13_condition_X13 (Nat.le_of_ble_eq_true rfl) (by decide +kernel) dX13_condition_231 (by repeat (first | with_reducible assumption | (with_reducible refine sv_us.trans ?_; exact rfl) | with_reducible refine (sv_un (by omega)).trans ?_)) (by repeat (first | with_reducible assumption | (with_reducible refine (sv_ls (by first | omega | (simp only [List.length_set]; omega))).trans ?_; exact rfl) | with_reducible refine (List.getElem?_set_ne (by decide)).trans ?_)) ?_
      refine v_iload_n dX13_condition_234 rfl 7 rfl ?_
      refine v_laldS (v := fv rr) dX13_condition_235 (by repeat (first | with_reducible assumption | (with_reducible refine sv_us.trans ?_; exact rfl) | with_reducible refine (sv_un (by omega)).trans ?_)) (vp_in_nI hrr (by omega)) (by rw [nI_clamp (by omega)]) ?_
      refine v_last dX13_condition_236 (by repeat (first | with_reducible assumption | (with_reducible refine sv_us.trans ?_; exact rfl) | with_reducible refine (sv_un (by omega)).trans ?_)) (vp_in_nI hrr (by omega)) ?_
      refine v_aload_n dX13_condition_237 rfl 6 rfl ?_
      refine v_getf 25 (ci := 11) (C := RX13) (T := TX13) (N := 71) rfl iwX13_condition_X13 (Nat.le_of_ble_eq_true rfl) (by decide +kernel) dX13_condition_238 (by repeat (first | with_reducible assumption | (with_reducible refine sv_us.trans ?_; exact rfl) | with_reducible refine (sv_un (by omega)).trans ?_)) (by repeat (first | with_reducible assumption | (with_reducible refine (sv_ls (by first | omega | (simp only [List.length_set]; omega))).trans ?_; exact rfl) | with_reducible refine (List.getElem?_set_ne (by decide)).trans ?_)) ?_
      refine v_iload_n dX13_condition_241 rfl 7 rfl ?_
      refine v_iload dX13_condition_242 1 rfl ?_
      refine v_if_eq (tgt := 252) dX13_condition_244 (by decide) (fun c_244 => ?_) (fun c_244 => ?_)
      · refine v_aload_n dX13_condition_252 rfl 6 rfl ?_
        refine v_getf 25 (ci := 11) (C := RX13) (T := TX13) (N := 71) rfl iwX13_condition_X13 (Nat.le_of_ble_eq_true rfl) (by decide +kernel) dX13_condition_253 (by repeat (first | with_reducible assumption | (with_reducible refine sv_us.trans ?_; exact rfl) | with_reducible refine (sv_un (by omega)).trans ?_)) (by repeat (first | with_reducible assumption | (with_reducible refine (sv_ls (by first | omega | (simp only [List.length_set]; omega))).trans ?_; exact rfl) | with_reducible refine (List.getElem?_set_ne (by decide)).trans ?_)) ?_
        refine v_iload_n dX13_condition_256 rfl 7 rfl ?_
        refine v_laldS (v := fe rr) dX13_condition_257 (by repeat (first | with_reducible assumption | (with_reducible refine sv_us.trans ?_; exact rfl) | with_reducible refine (sv_un (by omega)).trans ?_)) (vp_in_nI hrr (by omega)) (by rw [nI_clamp (by omega)]) ?_
        refine v_last dX13_condition_258 (by repeat (first | with_reducible assumption | (with_reducible refine sv_us.trans ?_; exact rfl) | with_reducible refine (sv_un (by omega)).trans ?_)) (vp_in_nI hrr (by omega)) ?_
        exact v_ret rfl dX13_condition_259 (Nat.le_of_ble_eq_true rfl) (Nat.le_of_ble_eq_true rfl) (by rw [nI_clamp (n := rr) (by omega)]; exact hk _ (by repeat (first | with_reducible assumption | with_reducible refine (sv_un (by omega)).trans ?_)) (by first | (rw [if_pos c_200]; exact ((sv_un (by omega)).trans ((sv_un (by omega)).trans sv_us))) | (rw [if_neg c_200]; exact ((sv_un (by omega)).trans ((sv_un (by omega)).trans sv_us)))) (by first | (rw [if_pos c_222]; exact ((sv_un (by omega)).trans sv_us)) | (rw [if_neg c_222]; exact ((sv_un (by omega)).trans sv_us))) (by first | (rw [if_pos c_244]; exact sv_us) | (rw [if_neg c_244]; exact sv_us)) (fun a r1 r2 r3 => (sv_un r3).trans ((sv_un r2).trans (sv_un r1))))
      · refine v_lload dX13_condition_247 0 rfl ?_
        refine v_goto (tgt := 258) dX13_condition_249 (by decide) ?_
        refine v_last dX13_condition_258 (by repeat (first | with_reducible assumption | (with_reducible refine sv_us.trans ?_; exact rfl) | with_reducible refine (sv_un (by omega)).trans ?_)) (vp_in_nI hrr (by omega)) ?_
        exact v_ret rfl dX13_condition_259 (Nat.le_of_ble_eq_true rfl) (Nat.le_of_ble_eq_true rfl) (by rw [nI_clamp (n := rr) (by omega)]; exact hk _ (by repeat (first | with_reducible assumption | with_reducible refine (sv_un (by omega)).trans ?_)) (by first | (rw [if_pos c_200]; exact ((sv_un (by omega)).trans ((sv_un (by omega)).trans sv_us))) | (rw [if_neg c_200]; exact ((sv_un (by omega)).trans ((sv_un (by omega)).trans sv_us)))) (by first | (rw [if_pos c_222]; exact ((sv_un (by omega)).trans sv_us)) | (rw [if_neg c_222]; exact ((sv_un (by omega)).trans sv_us))) (by first | (rw [if_pos c_244]; exact sv_us) | (rw [if_neg c_244]; exact sv_us)) (fun a r1 r2 r3 => (sv_un r3).trans ((sv_un r2).trans (sv_un r1))))
    · refine v_lload dX13_condition_225 0 rfl ?_
      refine v_goto (tgt := 236) dX13_condition_227 (by decide) ?_
      refine v_last dX13_condition_236 (by repeat (first | with_reducible assumption | (with_reducible refine sv_us.trans ?_; exact rfl) | with_reducible refine (sv_un (by omega)).trans ?_)) (vp_in_nI hrr (by omega)) ?_
      refine v_aload_n dX13_condition_237 rfl 6 rfl ?_
      refine v_getf 25 (ci := 11) (C := RX13) (T := TX13) (N := 71) rfl iwX13_condition_X13 (Nat.le_of_ble_eq_true rfl) (by decide +kernel) dX13_condition_238 (by repeat (first | with_reducible assumption | (with_reducible refine sv_us.trans ?_; exact rfl) | with_reducible refine (sv_un (by omega)).trans ?_)) (by repeat (first | with_reducible assumption | (with_reducible refine (sv_ls (by first | omega | (simp only [List.length_set]; omega))).trans ?_; exact rfl) | with_reducible refine (List.getElem?_set_ne (by decide)).trans ?_)) ?_
      refine v_iload_n dX13_condition_241 rfl 7 rfl ?_
      refine v_iload dX13_condition_242 1 rfl ?_
      refine v_if_eq (tgt := 252) dX13_condition_244 (by decide) (fun c_244 => ?_) (fun c_244 => ?_)
      · refine v_aload_n dX13_condition_252 rfl 6 rfl ?_
        refine v_getf 25 (ci := 11) (C := RX13) (T := TX13) (N := 71) rfl iwX13_condition_X13 (Nat.le_of_ble_eq_true rfl) (by decide +kernel) dX13_condition_253 (by repeat (first | with_reducible assumption | (with_reducible refine sv_us.trans ?_; exact rfl) | with_reducible refine (sv_un (by omega)).trans ?_)) (by repeat (first | with_reducible assumption | (with_reducible refine (sv_ls (by first | omega | (simp only [List.length_set]; omega))).trans ?_; exact rfl) | with_reducible refine (List.getElem?_set_ne (by decide)).trans ?_)) ?_
        refine v_iload_n dX13_condition_256 rfl 7 rfl ?_
        refine v_laldS (v := fe rr) dX13_condition_257 (by repeat (first | with_reducible assumption | (with_reducible refine sv_us.trans ?_; exact rfl) | with_reducible refine (sv_un (by omega)).trans ?_)) (vp_in_nI hrr (by omega)) (by rw [nI_clamp (by omega)]) ?_
        refine v_last dX13_condition_258 (by repeat (first | with_reducible assumption | (with_reducible refine sv_us.trans ?_; exact rfl) | with_reducible refine (sv_un (by omega)).trans ?_)) (vp_in_nI hrr (by omega)) ?_
        exact v_ret rfl dX13_condition_259 (Nat.le_of_ble_eq_true rfl) (Nat.le_of_ble_eq_true rfl) (by rw [nI_clamp (n := rr) (by omega)]; exact hk _ (by repeat (first | with_reducible assumption | with_reducible refine (sv_un (by omega)).trans ?_)) (by first | (rw [if_pos c_200]; exact ((sv_un (by omega)).trans ((sv_un (by omega)).trans sv_us))) | (rw [if_neg c_200]; exact ((sv_un (by omega)).trans ((sv_un (by omega)).trans sv_us)))) (by first | (rw [if_pos c_222]; exact ((sv_un (by omega)).trans sv_us)) | (rw [if_neg c_222]; exact ((sv_un (by omega)).trans sv_us))) (by first | (rw [if_pos c_244]; exact sv_us) | (rw [if_neg c_244]; exact sv_us)) (fun a r1 r2 r3 => (sv_un r3).trans ((sv_un r2).trans (sv_un r1))))
      · refine v_lload dX13_condition_247 0 rfl ?_
        refine v_goto (tgt := 258) dX13_condition_249 (by decide) ?_
        refine v_last dX13_condition_258 (by repeat (first | with_reducible assumption | (with_reducible refine sv_us.trans ?_; exact rfl) | with_reducible refine (sv_un (by omega)).trans ?_)) (vp_in_nI hrr (by omega)) ?_
        exact v_ret rfl dX13_condition_259 (Nat.le_of_ble_eq_true rfl) (Nat.le_of_ble_eq_true rfl) (by rw [nI_clamp (n := rr) (by omega)]; exact hk _ (by repeat (first | with_reducible assumption | with_reducible refine (sv_un (by omega)).trans ?_)) (by first | (rw [if_pos c_200]; exact ((sv_un (by omega)).trans ((sv_un (by omega)).trans sv_us))) | (rw [if_neg c_200]; exact ((sv_un (by omega)).trans ((sv_un (by omega)).trans sv_us)))) (by first | (rw [if_pos c_222]; exact ((sv_un (by omega)).trans sv_us)) | (rw [if_neg c_222]; exact ((sv_un (by omega)).trans sv_us))) (by first | (rw [if_pos c_244]; exact sv_us) | (rw [if_neg c_244]; exact sv_us)) (fun a r1 r2 r3 => (sv_un r3).trans ((sv_un r2).trans (sv_un r1))))
  · refine v_lload dX13_condition_203 0 rfl ?_
    refine v_goto (tgt := 214) dX13_condition_205 (by decide) ?_
    refine v_last dX13_condition_214 (by repeat (first | with_reducible assumption | (with_reducible refine sv_us.trans ?_; exact rfl) | with_reducible refine (sv_un (by omega)).trans ?_)) (vp_in_nI hrr (by omega)) ?_
    refine v_aload_n dX13_condition_215 rfl 6 rfl ?_
    refine v_getf 24 (ci := 11) (C := RX13) (T := TX13) (N := 71) rfl iwX13_condition_X13 (Nat.le_of_ble_eq_true rfl) (by decide +kernel) dX13_condition_216 (by repeat (first | with_reducible assumption | (with_reducible refine sv_us.trans ?_; exact rfl) | with_reducible refine (sv_un (by omega)).trans ?_)) (by repeat (first | with_reducible assumption | (with_reducible refine (sv_ls (by first | omega | (simp only [List.length_set]; omega))).trans ?_; exact rfl) | with_reducible refine (List.getElem?_set_ne (by decide)).trans ?_)) ?_
    refine v_iload_n dX13_condition_219 rfl 7 rfl ?_
    refine v_iload dX13_condition_220 2 rfl ?_
    refine v_if_eq (tgt := 230) dX13_condition_222 (by decide) (fun c_222 => ?_) (fun c_222 => ?_)
    · refine v_aload_n dX13_condition_230 rfl 6 rfl ?_
      refine v_getf 24 (ci := 11) (C := RX13) (T := TX13) (N := 71) rfl iwX13_condition_X13 (Nat.le_of_ble_eq_true rfl) (by decide +kernel) dX13_condition_231 (by repeat (first | with_reducible assumption | (with_reducible refine sv_us.trans ?_; exact rfl) | with_reducible refine (sv_un (by omega)).trans ?_)) (by repeat (first | with_reducible assumption | (with_reducible refine (sv_ls (by first | omega | (simp only [List.length_set]; omega))).trans ?_; exact rfl) | with_reducible refine (List.getElem?_set_ne (by decide)).trans ?_)) ?_
      refine v_iload_n dX13_condition_234 rfl 7 rfl ?_
      refine v_laldS (v := fv rr) dX13_condition_235 (by repeat (first | with_reducible assumption | (with_reducible refine sv_us.trans ?_; exact rfl) | with_reducible refine (sv_un (by omega)).trans ?_)) (vp_in_nI hrr (by omega)) (by rw [nI_clamp (by omega)]) ?_
      refine v_last dX13_condition_236 (by repeat (first | with_reducible assumption | (with_reducible refine sv_us.trans ?_; exact rfl) | with_reducible refine (sv_un (by omega)).trans ?_)) (vp_in_nI hrr (by omega)) ?_
      refine v_aload_n dX13_condition_237 rfl 6 rfl ?_
      refine v_getf 25 (ci := 11) (C := RX13) (T := TX13) (N := 71) rfl iwX13_condition_X13 (Nat.le_of_ble_eq_true rfl) (by decide +kernel) dX13_condition_238 (by repeat (first | with_reducible assumption | (with_reducible refine sv_us.trans ?_; exact rfl) | with_reducible refine (sv_un (by omega)).trans ?_)) (by repeat (first | with_reducible assumption | (with_reducible refine (sv_ls (by first | omega | (simp only [List.length_set]; omega))).trans ?_; exact rfl) | with_reducible refine (List.getElem?_set_ne (by decide)).trans ?_)) ?_
      refine v_iload_n dX13_condition_241 rfl 7 rfl ?_
      refine v_iload dX13_condition_242 1 rfl ?_
      refine v_if_eq (tgt := 252) dX13_condition_244 (by decide) (fun c_244 => ?_) (fun c_244 => ?_)
      · refine v_aload_n dX13_condition_252 rfl 6 rfl ?_
        refine v_getf 25 (ci := 11) (C := RX13) (T := TX13) (N := 71) rfl iwX13_condition_X13 (Nat.le_of_ble_eq_true rfl) (by decide +kernel) dX13_condition_253 (by repeat (first | with_reducible assumption | (with_reducible refine sv_us.trans ?_; exact rfl) | with_reducible refine (sv_un (by omega)).trans ?_)) (by repeat (first | with_reducible assumption | (with_reducible refine (sv_ls (by first | omega | (simp only [List.length_set]; omega))).trans ?_; exact rfl) | with_reducible refine (List.getElem?_set_ne (by decide)).trans ?_)) ?_
        refine v_iload_n dX13_condition_256 rfl 7 rfl ?_
        refine v_laldS (v := fe rr) dX13_condition_257 (by repeat (first | with_reducible assumption | (with_reducible refine sv_us.trans ?_; exact rfl) | with_reducible refine (sv_un (by omega)).trans ?_)) (vp_in_nI hrr (by omega)) (by rw [nI_clamp (by omega)]) ?_
        refine v_last dX13_condition_258 (by repeat (first | with_reducible assumption | (with_reducible refine sv_us.trans ?_; exact rfl) | with_reducible refine (sv_un (by omega)).trans ?_)) (vp_in_nI hrr (by omega)) ?_
        exact v_ret rfl dX13_condition_259 (Nat.le_of_ble_eq_true rfl) (Nat.le_of_ble_eq_true rfl) (by rw [nI_clamp (n := rr) (by omega)]; exact hk _ (by repeat (first | with_reducible assumption | with_reducible refine (sv_un (by omega)).trans ?_)) (by first | (rw [if_pos c_200]; exact ((sv_un (by omega)).trans ((sv_un (by omega)).trans sv_us))) | (rw [if_neg c_200]; exact ((sv_un (by omega)).trans ((sv_un (by omega)).trans sv_us)))) (by first | (rw [if_pos c_222]; exact ((sv_un (by omega)).trans sv_us)) | (rw [if_neg c_222]; exact ((sv_un (by omega)).trans sv_us))) (by first | (rw [if_pos c_244]; exact sv_us) | (rw [if_neg c_244]; exact sv_us)) (fun a r1 r2 r3 => (sv_un r3).trans ((sv_un r2).trans (sv_un r1))))
      · refine v_lload dX13_condition_247 0 rfl ?_
        refine v_goto (tgt := 258) dX13_condition_249 (by decide) ?_
        refine v_last dX13_condition_258 (by repeat (first | with_reducible assumption | (with_reducible refine sv_us.trans ?_; exact rfl) | with_reducible refine (sv_un (by omega)).trans ?_)) (vp_in_nI hrr (by omega)) ?_
        exact v_ret rfl dX13_condition_259 (Nat.le_of_ble_eq_true rfl) (Nat.le_of_ble_eq_true rfl) (by rw [nI_clamp (n := rr) (by omega)]; exact hk _ (by repeat (first | with_reducible assumption | with_reducible refine (sv_un (by omega)).trans ?_)) (by first | (rw [if_pos c_200]; exact ((sv_un (by omega)).trans ((sv_un (by omega)).trans sv_us))) | (rw [if_neg c_200]; exact ((sv_un (by omega)).trans ((sv_un (by omega)).trans sv_us)))) (by first | (rw [if_pos c_222]; exact ((sv_un (by omega)).trans sv_us)) | (rw [if_neg c_222]; exact ((sv_un (by omega)).trans sv_us))) (by first | (rw [if_pos c_244]; exact sv_us) | (rw [if_neg c_244]; exact sv_us)) (fun a r1 r2 r3 => (sv_un r3).trans ((sv_un r2).trans (sv_un r1))))
    · refine v_lload dX13_condition_225 0 rfl ?_
      refine v_goto (tgt := 236) dX13_condition_227 (by decide) ?_
      refine v_last dX13_condition_236 (by repeat (first | with_reducible assumption | (with_reducible refine sv_us.trans ?_; exact rfl) | with_reducible refine (sv_un (by omega)).trans ?_)) (vp_in_nI hrr (by omega)) ?_
      refine v_aload_n dX13_condition_237 rfl 6 rfl ?_
      refine v_getf 25 (ci := 11) (C := RX13) (T := TX13) (N := 71) rfl iwX13_condition_X13 (Nat.le_of_ble_eq_true rfl) (by decide +kernel) dX13_condition_238 (by repeat (first | with_reducible assumption | (with_reducible refine sv_us.trans ?_; exact rfl) | with_reducible refine (sv_un (by omega)).trans ?_)) (by repeat (first | with_reducible assumption | (with_reducible refine (sv_ls (by first | omega | (simp only [List.length_set]; omega))).trans ?_; exact rfl) | with_reducible refine (List.getElem?_set_ne (by decide)).trans ?_)) ?_
      refine v_iload_n dX13_condition_241 rfl 7 rfl ?_
      refine v_iload dX13_condition_242 1 rfl ?_
      refine v_if_eq (tgt := 252) dX13_condition_244 (by decide) (fun c_244 => ?_) (fun c_244 => ?_)
      · refine v_aload_n dX13_condition_252 rfl 6 rfl ?_
        refine v_getf 25 (ci := 11) (C := RX13) (T := TX13) (N := 71) rfl iwX13_condition_X13 (Nat.le_of_ble_eq_true rfl) (by decide +kernel) dX13_condition_253 (by repeat (first | with_reducible assumption | (with_reducible refine sv_us.trans ?_; exact rfl) | with_reducible refine (sv_un (by omega)).trans ?_)) (by repeat (first | with_reducible assumption | (with_reducible refine (sv_ls (by first | omega | (simp only [List.length_set]; omega))).trans ?_; exact rfl) | with_reducible refine (List.getElem?_set_ne (by decide)).trans ?_)) ?_
        refine v_iload_n dX13_condition_256 rfl 7 rfl ?_
        refine v_laldS (v := fe rr) dX13_condition_257 (by repeat (first | with_reducible assumption | (with_reducible refine sv_us.trans ?_; exact rfl) | with_reducible refine (sv_un (by omega)).trans ?_)) (vp_in_nI hrr (by omega)) (by rw [nI_clamp (by omega)]) ?_
        refine v_last dX13_condition_258 (by repeat (first | with_reducible assumption | (with_reducible refine sv_us.trans ?_; exact rfl) | with_reducible refine (sv_un (by omega)).trans ?_)) (vp_in_nI hrr (by omega)) ?_
        exact v_ret rfl dX13_condition_259 (Nat.le_of_ble_eq_true rfl) (Nat.le_of_ble_eq_true rfl) (by rw [nI_clamp (n := rr) (by omega)]; exact hk _ (by repeat (first | with_reducible assumption | with_reducible refine (sv_un (by omega)).trans ?_)) (by first | (rw [if_pos c_200]; exact ((sv_un (by omega)).trans ((sv_un (by omega)).trans sv_us))) | (rw [if_neg c_200]; exact ((sv_un (by omega)).trans ((sv_un (by omega)).trans sv_us)))) (by first | (rw [if_pos c_222]; exact ((sv_un (by omega)).trans sv_us)) | (rw [if_neg c_222]; exact ((sv_un (by omega)).trans sv_us))) (by first | (rw [if_pos c_244]; exact sv_us) | (rw [if_neg c_244]; exact sv_us)) (fun a r1 r2 r3 => (sv_un r3).trans ((sv_un r2).trans (sv_un r1))))
      · refine v_lload dX13_condition_247 0 rfl ?_
        refine v_goto (tgt := 258) dX13_condition_249 (by decide) ?_
        refine v_last dX13_condition_258 (by repeat (first | with_reducible assumption | (with_reducible refine sv_us.trans ?_; exact rfl) | with_reducible refine (sv_un (by omega)).trans ?_)) (vp_in_nI hrr (by omega)) ?_
        exact v_ret rfl dX13_condition_259 (Nat.le_of_ble_eq_true rfl) (Nat.le_of_ble_eq_true rfl) (by rw [nI_clamp (n := rr) (by omega)]; exact hk _ (by repeat (first | with_reducible assumption | with_reducible refine (sv_un (by omega)).trans ?_)) (by first | (rw [if_pos c_200]; exact ((sv_un (by omega)).trans ((sv_un (by omega)).trans sv_us))) | (rw [if_neg c_200]; exact ((sv_un (by omega)).trans ((sv_un (by omega)).trans sv_us)))) (by first | (rw [if_pos c_222]; exact ((sv_un (by omega)).trans sv_us)) | (rw [if_neg c_222]; exact ((sv_un (by omega)).trans sv_us))) (by first | (rw [if_pos c_244]; exact sv_us) | (rw [if_neg c_244]; exact sv_us)) (fun a r1 r2 r3 => (sv_un r3).trans ((sv_un r2).trans (sv_un r1))))

