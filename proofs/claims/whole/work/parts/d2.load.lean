theorem iwX13_load_X13 : ∀ w ∈ wsX130, w ∈ wsX13_load := by decide +kernel
set_option maxRecDepth 20000 in
theorem ggX13_load_X13_out : GoodIn wsX13_load wsX13_out := goodIn_r _ [17, 18, 8, 6, 19, 20, 36, 37, 38, 39, 40, 41, 42, 43, 44, 45, 46, 47, 48, 49, 50, 51, 52, 53, 54, 55, 56, 57, 58, 59, 60, 61, 62, 63, 64, 65, 66, 67, 68, 69, 70, 71, 72, 73, 74, 75, 76, 77, 78, 79, 80, 81, 82, 83, 84, 85, 86, 87, 88, 89, 90, 91, 92, 93, 94, 95, 96, 97, 98, 99, 100, 101, 102, 103, 104, 105, 106] (by decide +kernel) (by decide +kernel)
set_option maxRecDepth 20000 in
theorem gX13_load_X13_out : GoodIn wsX13_load (wsV RX13 230 RX13 yX13_out wsX13_out) := goodIn_app (goodIn_of _ (by decide +kernel)) ggX13_load_X13_out
set_option maxRecDepth 20000 in
theorem ggX13_load_X13_findSides : GoodIn wsX13_load wsX13_findSides := goodIn_r _ [24, 3, 11, 12, 25, 26, 27, 28, 29, 30, 31, 16, 32, 33, 34, 35, 36, 37, 38, 39, 40, 41, 42, 43, 44, 45, 46, 47, 48, 49, 50, 51, 52, 53, 54, 55, 56, 57, 58, 59, 60, 61, 62, 63, 64, 65, 66, 67, 68, 69, 70, 71, 72, 73, 74, 75, 76, 77, 78, 79, 80, 81, 82, 83, 84, 85, 86, 87, 88, 89, 90, 91, 92, 93, 94, 95, 96, 97, 98, 99, 100, 101, 102, 103, 104, 105, 106] (by decide +kernel) (by decide +kernel)
set_option maxRecDepth 20000 in
theorem gX13_load_X13_findSides : GoodIn wsX13_load (wsV RX13 233 RX13 yX13_findSides wsX13_findSides) := goodIn_app (goodIn_of _ (by decide +kernel)) ggX13_load_X13_findSides
theorem dX13_load_0 : decode cX13_load 0 = .ok (.aload_n 0, 1) := by decide +kernel
theorem dX13_load_1 : decode cX13_load 1 = .ok (.getfield 86, 3) := by decide +kernel
theorem dX13_load_4 : decode cX13_load 4 = .ok (.iload_n 2, 1) := by decide +kernel
theorem dX13_load_5 : decode cX13_load 5 = .ok (.iaload, 1) := by decide +kernel
theorem dX13_load_6 : decode cX13_load 6 = .ok (.istore 4, 2) := by decide +kernel
theorem dX13_load_8 : decode cX13_load 8 = .ok (.aload_n 0, 1) := by decide +kernel
theorem dX13_load_9 : decode cX13_load 9 = .ok (.getfield 125, 3) := by decide +kernel
theorem dX13_load_12 : decode cX13_load 12 = .ok (.iload_n 1, 1) := by decide +kernel
theorem dX13_load_13 : decode cX13_load 13 = .ok (.iload 4, 2) := by decide +kernel
theorem dX13_load_15 : decode cX13_load 15 = .ok (.iastore, 1) := by decide +kernel
theorem dX13_load_16 : decode cX13_load 16 = .ok (.aload_n 0, 1) := by decide +kernel
theorem dX13_load_17 : decode cX13_load 17 = .ok (.getfield 101, 3) := by decide +kernel
theorem dX13_load_20 : decode cX13_load 20 = .ok (.iload_n 1, 1) := by decide +kernel
theorem dX13_load_21 : decode cX13_load 21 = .ok (.aload_n 0, 1) := by decide +kernel
theorem dX13_load_22 : decode cX13_load 22 = .ok (.getfield 20, 3) := by decide +kernel
theorem dX13_load_25 : decode cX13_load 25 = .ok (.iload 4, 2) := by decide +kernel
theorem dX13_load_27 : decode cX13_load 27 = .ok (.iaload, 1) := by decide +kernel
theorem dX13_load_28 : decode cX13_load 28 = .ok (.iastore, 1) := by decide +kernel
theorem dX13_load_29 : decode cX13_load 29 = .ok (.iconst 0, 1) := by decide +kernel
theorem dX13_load_30 : decode cX13_load 30 = .ok (.istore 5, 2) := by decide +kernel
theorem dX13_load_32 : decode cX13_load 32 = .ok (.iload 5, 2) := by decide +kernel
theorem dX13_load_34 : decode cX13_load 34 = .ok (.aload_n 0, 1) := by decide +kernel
theorem dX13_load_35 : decode cX13_load 35 = .ok (.getfield 20, 3) := by decide +kernel
theorem dX13_load_38 : decode cX13_load 38 = .ok (.iload 4, 2) := by decide +kernel
theorem dX13_load_40 : decode cX13_load 40 = .ok (.iaload, 1) := by decide +kernel
theorem dX13_load_41 : decode cX13_load 41 = .ok (.if_icmp .ge 113, 3) := by decide +kernel
theorem dX13_load_44 : decode cX13_load 44 = .ok (.aload_n 0, 1) := by decide +kernel
theorem dX13_load_45 : decode cX13_load 45 = .ok (.aload_n 0, 1) := by decide +kernel
theorem dX13_load_46 : decode cX13_load 46 = .ok (.getfield 23, 3) := by decide +kernel
theorem dX13_load_49 : decode cX13_load 49 = .ok (.bipush 16, 2) := by decide +kernel
theorem dX13_load_51 : decode cX13_load 51 = .ok (.iload 4, 2) := by decide +kernel
theorem dX13_load_53 : decode cX13_load 53 = .ok (.imul, 1) := by decide +kernel
theorem dX13_load_54 : decode cX13_load 54 = .ok (.iload 5, 2) := by decide +kernel
theorem dX13_load_56 : decode cX13_load 56 = .ok (.iadd, 1) := by decide +kernel
theorem dX13_load_57 : decode cX13_load 57 = .ok (.laload, 1) := by decide +kernel
theorem dX13_load_58 : decode cX13_load 58 = .ok (.putfield 227, 3) := by decide +kernel
theorem dX13_load_61 : decode cX13_load 61 = .ok (.aload_n 0, 1) := by decide +kernel
theorem dX13_load_62 : decode cX13_load 62 = .ok (.aload_n 0, 1) := by decide +kernel
theorem dX13_load_63 : decode cX13_load 63 = .ok (.getfield 26, 3) := by decide +kernel
theorem dX13_load_66 : decode cX13_load 66 = .ok (.bipush 16, 2) := by decide +kernel
theorem dX13_load_68 : decode cX13_load 68 = .ok (.iload 4, 2) := by decide +kernel
theorem dX13_load_70 : decode cX13_load 70 = .ok (.imul, 1) := by decide +kernel
theorem dX13_load_71 : decode cX13_load 71 = .ok (.iload 5, 2) := by decide +kernel
theorem dX13_load_73 : decode cX13_load 73 = .ok (.iadd, 1) := by decide +kernel
theorem dX13_load_74 : decode cX13_load 74 = .ok (.laload, 1) := by decide +kernel
theorem dX13_load_75 : decode cX13_load 75 = .ok (.putfield 223, 3) := by decide +kernel
theorem dX13_load_78 : decode cX13_load 78 = .ok (.aload_n 0, 1) := by decide +kernel
theorem dX13_load_79 : decode cX13_load 79 = .ok (.getfield 89, 3) := by decide +kernel
theorem dX13_load_82 : decode cX13_load 82 = .ok (.iload_n 2, 1) := by decide +kernel
theorem dX13_load_83 : decode cX13_load 83 = .ok (.iaload, 1) := by decide +kernel
theorem dX13_load_84 : decode cX13_load 84 = .ok (.iconst 1, 1) := by decide +kernel
theorem dX13_load_85 : decode cX13_load 85 = .ok (.isub, 1) := by decide +kernel
theorem dX13_load_86 : decode cX13_load 86 = .ok (.istore 6, 2) := by decide +kernel
theorem dX13_load_88 : decode cX13_load 88 = .ok (.iload 6, 2) := by decide +kernel
theorem dX13_load_90 : decode cX13_load 90 = .ok (.iload_n 3, 1) := by decide +kernel
theorem dX13_load_91 : decode cX13_load 91 = .ok (.if_icmp .lt 25, 3) := by decide +kernel
theorem dX13_load_94 : decode cX13_load 94 = .ok (.aload_n 0, 1) := by decide +kernel
theorem dX13_load_95 : decode cX13_load 95 = .ok (.aload_n 0, 1) := by decide +kernel
theorem dX13_load_96 : decode cX13_load 96 = .ok (.getfield 92, 3) := by decide +kernel
theorem dX13_load_99 : decode cX13_load 99 = .ok (.bipush 16, 2) := by decide +kernel
theorem dX13_load_101 : decode cX13_load 101 = .ok (.iload_n 2, 1) := by decide +kernel
theorem dX13_load_102 : decode cX13_load 102 = .ok (.imul, 1) := by decide +kernel
theorem dX13_load_103 : decode cX13_load 103 = .ok (.iload 6, 2) := by decide +kernel
theorem dX13_load_105 : decode cX13_load 105 = .ok (.iadd, 1) := by decide +kernel
theorem dX13_load_106 : decode cX13_load 106 = .ok (.iaload, 1) := by decide +kernel
theorem dX13_load_107 : decode cX13_load 107 = .ok (.invokevirtual 230, 3) := by decide +kernel
theorem dX13_load_110 : decode cX13_load 110 = .ok (.iinc 6 (-1), 3) := by decide +kernel
theorem dX13_load_113 : decode cX13_load 113 = .ok (.goto (-25), 3) := by decide +kernel
theorem dX13_load_116 : decode cX13_load 116 = .ok (.aload_n 0, 1) := by decide +kernel
theorem dX13_load_117 : decode cX13_load 117 = .ok (.getfield 104, 3) := by decide +kernel
theorem dX13_load_120 : decode cX13_load 120 = .ok (.bipush 17, 2) := by decide +kernel
theorem dX13_load_122 : decode cX13_load 122 = .ok (.iload_n 1, 1) := by decide +kernel
theorem dX13_load_123 : decode cX13_load 123 = .ok (.imul, 1) := by decide +kernel
theorem dX13_load_124 : decode cX13_load 124 = .ok (.iload 5, 2) := by decide +kernel
theorem dX13_load_126 : decode cX13_load 126 = .ok (.iadd, 1) := by decide +kernel
theorem dX13_load_127 : decode cX13_load 127 = .ok (.aload_n 0, 1) := by decide +kernel
theorem dX13_load_128 : decode cX13_load 128 = .ok (.getfield 227, 3) := by decide +kernel
theorem dX13_load_131 : decode cX13_load 131 = .ok (.lastore, 1) := by decide +kernel
theorem dX13_load_132 : decode cX13_load 132 = .ok (.aload_n 0, 1) := by decide +kernel
theorem dX13_load_133 : decode cX13_load 133 = .ok (.getfield 107, 3) := by decide +kernel
theorem dX13_load_136 : decode cX13_load 136 = .ok (.bipush 17, 2) := by decide +kernel
theorem dX13_load_138 : decode cX13_load 138 = .ok (.iload_n 1, 1) := by decide +kernel
theorem dX13_load_139 : decode cX13_load 139 = .ok (.imul, 1) := by decide +kernel
theorem dX13_load_140 : decode cX13_load 140 = .ok (.iload 5, 2) := by decide +kernel
theorem dX13_load_142 : decode cX13_load 142 = .ok (.iadd, 1) := by decide +kernel
theorem dX13_load_143 : decode cX13_load 143 = .ok (.aload_n 0, 1) := by decide +kernel
theorem dX13_load_144 : decode cX13_load 144 = .ok (.getfield 223, 3) := by decide +kernel
theorem dX13_load_147 : decode cX13_load 147 = .ok (.lastore, 1) := by decide +kernel
theorem dX13_load_148 : decode cX13_load 148 = .ok (.iinc 5 1, 3) := by decide +kernel
theorem dX13_load_151 : decode cX13_load 151 = .ok (.goto (-119), 3) := by decide +kernel
theorem dX13_load_154 : decode cX13_load 154 = .ok (.aload_n 0, 1) := by decide +kernel
theorem dX13_load_155 : decode cX13_load 155 = .ok (.getfield 104, 3) := by decide +kernel
theorem dX13_load_158 : decode cX13_load 158 = .ok (.bipush 17, 2) := by decide +kernel
theorem dX13_load_160 : decode cX13_load 160 = .ok (.iload_n 1, 1) := by decide +kernel
theorem dX13_load_161 : decode cX13_load 161 = .ok (.imul, 1) := by decide +kernel
theorem dX13_load_162 : decode cX13_load 162 = .ok (.aload_n 0, 1) := by decide +kernel
theorem dX13_load_163 : decode cX13_load 163 = .ok (.getfield 20, 3) := by decide +kernel
theorem dX13_load_166 : decode cX13_load 166 = .ok (.iload 4, 2) := by decide +kernel
theorem dX13_load_168 : decode cX13_load 168 = .ok (.iaload, 1) := by decide +kernel
theorem dX13_load_169 : decode cX13_load 169 = .ok (.iadd, 1) := by decide +kernel
theorem dX13_load_170 : decode cX13_load 170 = .ok (.aload_n 0, 1) := by decide +kernel
theorem dX13_load_171 : decode cX13_load 171 = .ok (.getfield 104, 3) := by decide +kernel
theorem dX13_load_174 : decode cX13_load 174 = .ok (.bipush 17, 2) := by decide +kernel
theorem dX13_load_176 : decode cX13_load 176 = .ok (.iload_n 1, 1) := by decide +kernel
theorem dX13_load_177 : decode cX13_load 177 = .ok (.imul, 1) := by decide +kernel
theorem dX13_load_178 : decode cX13_load 178 = .ok (.laload, 1) := by decide +kernel
theorem dX13_load_179 : decode cX13_load 179 = .ok (.lastore, 1) := by decide +kernel
theorem dX13_load_180 : decode cX13_load 180 = .ok (.aload_n 0, 1) := by decide +kernel
theorem dX13_load_181 : decode cX13_load 181 = .ok (.getfield 107, 3) := by decide +kernel
theorem dX13_load_184 : decode cX13_load 184 = .ok (.bipush 17, 2) := by decide +kernel
theorem dX13_load_186 : decode cX13_load 186 = .ok (.iload_n 1, 1) := by decide +kernel
theorem dX13_load_187 : decode cX13_load 187 = .ok (.imul, 1) := by decide +kernel
theorem dX13_load_188 : decode cX13_load 188 = .ok (.aload_n 0, 1) := by decide +kernel
theorem dX13_load_189 : decode cX13_load 189 = .ok (.getfield 20, 3) := by decide +kernel
theorem dX13_load_192 : decode cX13_load 192 = .ok (.iload 4, 2) := by decide +kernel
theorem dX13_load_194 : decode cX13_load 194 = .ok (.iaload, 1) := by decide +kernel
theorem dX13_load_195 : decode cX13_load 195 = .ok (.iadd, 1) := by decide +kernel
theorem dX13_load_196 : decode cX13_load 196 = .ok (.aload_n 0, 1) := by decide +kernel
theorem dX13_load_197 : decode cX13_load 197 = .ok (.getfield 107, 3) := by decide +kernel
theorem dX13_load_200 : decode cX13_load 200 = .ok (.bipush 17, 2) := by decide +kernel
theorem dX13_load_202 : decode cX13_load 202 = .ok (.iload_n 1, 1) := by decide +kernel
theorem dX13_load_203 : decode cX13_load 203 = .ok (.imul, 1) := by decide +kernel
theorem dX13_load_204 : decode cX13_load 204 = .ok (.laload, 1) := by decide +kernel
theorem dX13_load_205 : decode cX13_load 205 = .ok (.lastore, 1) := by decide +kernel
theorem dX13_load_206 : decode cX13_load 206 = .ok (.aload_n 0, 1) := by decide +kernel
theorem dX13_load_207 : decode cX13_load 207 = .ok (.iload_n 1, 1) := by decide +kernel
theorem dX13_load_208 : decode cX13_load 208 = .ok (.invokevirtual 233, 3) := by decide +kernel
theorem dX13_load_211 : decode cX13_load 211 = .ok (.return_, 1) := by decide +kernel

abbrev mX13_load : sv_M := (cX13_load, 7, yX13_load, wsX13_load, none, { frames := 4, cells := 0, slots := 0, locals := 100 }, [])
theorem mvW_app {mp : Nat → mvT} : ∀ (n : Nat) (w2 w1 : List Nat), w2.length = n → (∀ i, i ∈ w2 → (mp i).2.1 < 4) → ∀ p, mvA (mvW mp (w1 ++ w2)) p = mvA (mvW mp w1) (mvA (mvW mp w2) p) := by
  intro n
  induction n with
  | zero =>
    intro w2 w1 hw _ p
    rw [List.eq_nil_of_length_eq_zero hw, List.append_nil, show mvW mp [] = mvI from rfl, mvI_A]
  | succ n ih =>
    intro w2 w1 hw hq p
    have hne : w2 ≠ [] := by intro e; rw [e] at hw; exact absurd hw (by simp)
    have e := List.dropLast_concat_getLast hne
    have hl : w2.dropLast.length = n := by rw [List.length_dropLast, hw]; rfl
    have e1 : mvW mp w2 = mvJ (mvW mp w2.dropLast) (mp (w2.getLast hne)) := by rw [← mvW_s, e]
    have e2 : mvW mp (w1 ++ w2) = mvJ (mvW mp (w1 ++ w2.dropLast)) (mp (w2.getLast hne)) := by rw [← mvW_s, List.append_assoc, e]
    have hl4 := hq _ (List.getLast_mem hne)
    rw [e1, e2, mvJ_A (mvW_q mp _) hl4, mvJ_A (mvW_q mp _) hl4]
    exact ih w2.dropLast w1 hl (fun i hi => hq i (List.dropLast_subset _ hi)) _
theorem mvW_c {mp : Nat → mvT} {i : Nat} {w : List Nat} (hi : (mp i).2.1 < 4) (hq : ∀ j, j ∈ w → (mp j).2.1 < 4) (p : Int × Int) : mvA (mvW mp (i :: w)) p = mvA (mp i) (mvA (mvW mp w) p) := by
  have a := mvW_app w.length w [i] rfl hq p
  have b : mvW mp [i] = mvJ mvI (mp i) := rfl
  rw [show [i] ++ w = i :: w from rfl, b, mvJ_A (by decide) hi, mvI_A] at a
  exact a
/-- the model's layout while a rule is run -/
def myl_ (G : sv_G) (h : sv_h) (b nc np pl : Nat) (R : Nat → Bool) (hm p3 p4 sz : Nat → Nat) (ly vo : Nat → Int32) (mp : Nat → mvT) (X Y : Nat → Nat → Int) : Prop :=
  (∃ f, ab_I G h (b + 221) 64 f ∧ ∀ p, p < np → f p = nI (hm p)) ∧ (∃ f, ab_I G h (b + 222) 64 f ∧ ∀ p, p < np → f p = ly p) ∧ (∃ f, ab_J G h (b + 223) 64 f ∧ ∀ p, p < np → f p = (vo p).toInt64) ∧ (∃ f, ab_I G h (b + 224) 64 f ∧ ∀ p, p < np → f p = nI (sz p)) ∧ (∃ f, ab_J G h (b + 225) 1024 f ∧ ∀ p, p < np → ∀ i, i < sz p → f (16 * p + i) = jN (X p i)) ∧ (∃ f, ab_J G h (b + 226) 1024 f ∧ ∀ p, p < np → ∀ i, i < sz p → f (16 * p + i) = jN (Y p i)) ∧ (∃ f, ab_I G h (b + 227) 32 f ∧ ∀ i, i < pl → f i = nI (p3 i)) ∧ (∃ f, ab_I G h (b + 228) 32 f ∧ ∀ i, i < pl → f i = nI (p4 i)) ∧ (∃ f, ab_J G h (b + 229) 32 f ∧ ∀ i, i < pl → f i = jN (mp i).2.2.1) ∧ (∃ f, ab_J G h (b + 230) 32 f ∧ ∀ i, i < pl → f i = jN (mp i).2.2.2) ∧ (∃ f, ab_I G h (b + 231) 32 f ∧ ∀ i, i < pl → ∃ tn, tn < 8 ∧ f i = nI tn ∧ (mp i).1 = decide (4 ≤ tn) ∧ (mp i).2.1 = tn % 4) ∧ np ≤ 64 ∧ pl ≤ 32 ∧ nc ≤ 16 ∧ (∀ p, p < np → sz p ≤ 16 ∧ hm p < nc) ∧ ∀ i, i < pl → p3 i < nc ∧ p4 i < nc
theorem myl_.kp {G : sv_G} {h h1 : sv_h} {b nc np pl : Nat} {R : Nat → Bool} {hm p3 p4 sz : Nat → Nat} {ly vo : Nat → Int32} {mp : Nat → mvT} {X Y : Nat → Nat → Int} (H : myl_ G h b nc np pl R hm p3 p4 sz ly vo mp X Y) (e : ∀ a, b + 221 ≤ a → a < b + 232 → h1 a = h a) : myl_ G h1 b nc np pl R hm p3 p4 sz ly vo mp X Y := by
  obtain ⟨⟨f0, p0, q0⟩, ⟨f1, p1, q1⟩, ⟨f2, p2, q2⟩, ⟨f3, p3_, q3⟩, ⟨f4, p4_, q4⟩, ⟨f5, p5, q5⟩, ⟨f6, p6, q6⟩, ⟨f7, p7, q7⟩, ⟨f8, p8, q8⟩, ⟨f9, p9, q9⟩, ⟨f10, p10, q10⟩, q⟩ := H
  exact ⟨⟨f0, (e _ (by omega) (by omega)).trans p0, q0⟩, ⟨f1, (e _ (by omega) (by omega)).trans p1, q1⟩, ⟨f2, (e _ (by omega) (by omega)).trans p2, q2⟩, ⟨f3, (e _ (by omega) (by omega)).trans p3_, q3⟩, ⟨f4, (e _ (by omega) (by omega)).trans p4_, q4⟩, ⟨f5, (e _ (by omega) (by omega)).trans p5, q5⟩, ⟨f6, (e _ (by omega) (by omega)).trans p6, q6⟩, ⟨f7, (e _ (by omega) (by omega)).trans p7, q7⟩, ⟨f8, (e _ (by omega) (by omega)).trans p8, q8⟩, ⟨f9, (e _ (by omega) (by omega)).trans p9, q9⟩, ⟨f10, (e _ (by omega) (by omega)).trans p10, q10⟩, q⟩
/-- occurrences O, as the model lists them -/
def moc_ (G : sv_G) (h : sv_h) (b : Nat) (O : List (List Nat × Nat)) : Prop := ∃ fp fd fw : Nat → Int32, ab_I G h (b + 244) 100 fp ∧ ab_I G h (b + 245) 100 fd ∧ ab_I G h (b + 246) 1616 fw ∧ O.length ≤ 100 ∧ ∀ o, o < O.length → fp o = nI (O.getD o ([], 0)).2 ∧ fd o = nI (O.getD o ([], 0)).1.length ∧ (O.getD o ([], 0)).1.length < 16 ∧ ∀ d, d < (O.getD o ([], 0)).1.length → fw (16 * o + d) = nI ((O.getD o ([], 0)).1.getD d 0)
theorem moc_.kp {G : sv_G} {h h1 : sv_h} {b : Nat} {O : List (List Nat × Nat)} (H : moc_ G h b O) (e : ∀ a, b + 244 ≤ a → a < b + 247 → h1 a = h a) : moc_ G h1 b O := by
  obtain ⟨fp, fd, fw, a1, a2, a3, a4⟩ := H
  exact ⟨fp, fd, fw, (e _ (by omega) (by omega)).trans a1, (e _ (by omega) (by omega)).trans a2, (e _ (by omega) (by omega)).trans a3, a4⟩
/-- corner k as it lies d places above -/
def crD (mp : Nat → mvT) (X Y : Nat → Nat → Int) (q : List Nat × Nat) (d k : Nat) : Int × Int := cor mp X Y (q.1.drop d, q.2) k
/-- round: behind the last corner the first one -/
def crR (C : Nat → Int × Int) (n k : Nat) : Int × Int := if k = n then C 0 else C k
set_option maxHeartbeats 4000000 in
set_option maxRecDepth 100000 in
theorem l_ldW (G : sv_G) (Qr : Option Value → sv_h → Nat → Prop) (z b nc np pl : Nat) (R : Nat → Bool) (hm p3 p4 sz : Nat → Nat) (ly vo : Nat → Int32) (mp : Nat → mvT) (X Y : Nat → Nat → Int) (hb : sv_h) (fs0 : List Value) (hq0 : mfq_ b nc np pl fs0) (MY : myl_ G hb b nc np pl R hm p3 p4 sz ly vo mp X Y) (O : List (List Nat × Nat)) (MO : moc_ G hb b O) (o : Nat) (ho : o < O.length) (hop : (O.getD o ([], 0)).2 < np) (how : ∀ i, i ∈ (O.getD o ([], 0)).1 → i < pl) (w : Nat) (hw : w < 2) (d0 : Nat) (hd0 : d0 ≤ (O.getD o ([], 0)).1.length) (hc : sv_h) (frc : (∀ a, ¬ (b + 249 ≤ a ∧ a < b + 252) → a ≠ b + 257 → a ≠ b + 220 → hc a = hb a)) (k : Nat) (hk16 : k < sz (O.getD o ([], 0)).2) (hk : ∀ (h : sv_h) (fs : List Value), h (b + 220) = some (.inr (11, fs)) → fs.length = 71 → fsE [52, 53] fs0 fs → fs[52]? = some (.long (jN (crD mp X Y (O.getD o ([], 0)) d0 k).1)) → fs[53]? = some (.long (jN (crD mp X Y (O.getD o ([], 0)) d0 k).2)) → (∀ a, a ≠ b + 220 → h a = hc a) → V G mX13_load (sv_MQ G mX13_load Qr) 116 [(5, .int (nI k)), (4, .int (nI (O.getD o ([], 0)).2)), (3, .int (nI d0)), (2, .int (nI o)), (1, .int (nI w)), (0, .ref (b + 220))] [] h z 0 0) : ∀ (e d : Nat) (h : sv_h) (fs : List Value), d0 + e = d → d ≤ (O.getD o ([], 0)).1.length → h (b + 220) = some (.inr (11, fs)) → fs.length = 71 → fsE [52, 53] fs0 fs → fs[52]? = some (.long (jN (mvA (mvW mp ((O.getD o ([], 0)).1.drop d)) (X (O.getD o ([], 0)).2 k, Y (O.getD o ([], 0)).2 k)).1)) → fs[53]? = some (.long (jN (mvA (mvW mp ((O.getD o ([], 0)).1.drop d)) (X (O.getD o ([], 0)).2 k, Y (O.getD o ([], 0)).2 k)).2)) → (∀ a, a ≠ b + 220 → h a = hc a) → V G mX13_load (sv_MQ G mX13_load Qr) 88 [(6, .int (iN ((d : Int) - 1))), (5, .int (nI k)), (4, .int (nI (O.getD o ([], 0)).2)), (3, .int (nI d0)), (2, .int (nI o)), (1, .int (nI w)), (0, .ref (b + 220))] [] h z 0 0 := by
  intro e
  induction e with
  | zero =>
    intro d h fs hde hdL hm9 hl hE f_tx f_ty frh
    have fr : (∀ a, ¬ (b + 249 ≤ a ∧ a < b + 252) → a ≠ b + 257 → a ≠ b + 220 → h a = hb a) := fun a p1 p2 p3_ => (frh a p3_).trans (frc a p1 p2 p3_)
    obtain ⟨⟨_, y0, _⟩, ⟨_, y1, _⟩, ⟨_, y2, _⟩, ⟨g3, y3, y3a⟩, ⟨g4, y4, y4a⟩, ⟨g5, y5, y5a⟩, ⟨_, y6, _⟩, ⟨_, y7, _⟩, ⟨g8, y8, y8a⟩, ⟨g9, y9, y9a⟩, ⟨gA, yA, yAa⟩, yB, yC, yD, yE, yF⟩ := id MY
    obtain ⟨fp, fd, fw, o1, o2, o3, o4, o5⟩ := id MO
    obtain ⟨o6, o7, o8, o9⟩ := o5 o ho
    have hqf := hq0.to (S := [52, 53]) hl hE (by decide)
    have hlen : fs.length = 71 := hl
    have f_polygon := hqf.f_polygon
    have f_ofPolygon := hqf.f_ofPolygon
    have f_sides := hqf.f_sides
    have f_size := hqf.f_size
    have f_px := hqf.f_px
    have f_py := hqf.f_py
    have f_depth := hqf.f_depth
    have f_way := hqf.f_way
    have f_cx := hqf.f_cx
    have f_cy := hqf.f_cy
    have w244 : ab_I G h (b + 244) 100 fp := (fr _ (by omega) (by omega) (by omega)).trans o1
    have w245 : ab_I G h (b + 245) 100 fd := (fr _ (by omega) (by omega) (by omega)).trans o2
    have w246 : ab_I G h (b + 246) 1616 fw := (fr _ (by omega) (by omega) (by omega)).trans o3
    have w224 : ab_I G h (b + 224) 64 g3 := (fr _ (by omega) (by omega) (by omega)).trans y3
    have w225 : ab_J G h (b + 225) 1024 g4 := (fr _ (by omega) (by omega) (by omega)).trans y4
    have w226 : ab_J G h (b + 226) 1024 g5 := (fr _ (by omega) (by omega) (by omega)).trans y5
    have w229 : ab_J G h (b + 229) 32 g8 := (fr _ (by omega) (by omega) (by omega)).trans y8
    have w230 : ab_J G h (b + 230) 32 g9 := (fr _ (by omega) (by omega) (by omega)).trans y9
    have w231 : ab_I G h (b + 231) 32 gA := (fr _ (by omega) (by omega) (by omega)).trans yA
    have zs := (yE _ hop).1
    have e9 : d = d0 := by omega
    subst e9
    refine v_iload dX13_load_88 0 rfl ?_
    refine v_iload_n dX13_load_90 rfl 3 rfl ?_
    refine v_icmp_lt (tgt := 116) dX13_load_91 (by decide) (fun c_91 => ?_) (fun c_91 => ?_)
    · refine v_sub (L' := [(5, _), (4, _), (3, _), (2, _), (1, _), (0, _)]) [1, 2, 3, 4, 5, 6] rfl ?_
      exact hk h fs hm9 hl hE f_tx f_ty frh
    · exact absurd (by rw [Int32.lt_iff_toInt_lt, iN_to (by omega) (by omega), nI_toI (by omega)]; omega) c_91
  | succ e ih =>
    intro d h fs hde hdL hm9 hl hE f_tx f_ty frh
    have fr : (∀ a, ¬ (b + 249 ≤ a ∧ a < b + 252) → a ≠ b + 257 → a ≠ b + 220 → h a = hb a) := fun a p1 p2 p3_ => (frh a p3_).trans (frc a p1 p2 p3_)
    obtain ⟨⟨_, y0, _⟩, ⟨_, y1, _⟩, ⟨_, y2, _⟩, ⟨g3, y3, y3a⟩, ⟨g4, y4, y4a⟩, ⟨g5, y5, y5a⟩, ⟨_, y6, _⟩, ⟨_, y7, _⟩, ⟨g8, y8, y8a⟩, ⟨g9, y9, y9a⟩, ⟨gA, yA, yAa⟩, yB, yC, yD, yE, yF⟩ := id MY
    obtain ⟨fp, fd, fw, o1, o2, o3, o4, o5⟩ := id MO
    obtain ⟨o6, o7, o8, o9⟩ := o5 o ho
    have hqf := hq0.to (S := [52, 53]) hl hE (by decide)
    have hlen : fs.length = 71 := hl
    have f_polygon := hqf.f_polygon
    have f_ofPolygon := hqf.f_ofPolygon
    have f_sides := hqf.f_sides
    have f_size := hqf.f_size
    have f_px := hqf.f_px
    have f_py := hqf.f_py
    have f_depth := hqf.f_depth
    have f_way := hqf.f_way
    have f_cx := hqf.f_cx
    have f_cy := hqf.f_cy
    have w244 : ab_I G h (b + 244) 100 fp := (fr _ (by omega) (by omega) (by omega)).trans o1
    have w245 : ab_I G h (b + 245) 100 fd := (fr _ (by omega) (by omega) (by omega)).trans o2
    have w246 : ab_I G h (b + 246) 1616 fw := (fr _ (by omega) (by omega) (by omega)).trans o3
    have w224 : ab_I G h (b + 224) 64 g3 := (fr _ (by omega) (by omega) (by omega)).trans y3
    have w225 : ab_J G h (b + 225) 1024 g4 := (fr _ (by omega) (by omega) (by omega)).trans y4
    have w226 : ab_J G h (b + 226) 1024 g5 := (fr _ (by omega) (by omega) (by omega)).trans y5
    have w229 : ab_J G h (b + 229) 32 g8 := (fr _ (by omega) (by omega) (by omega)).trans y8
    have w230 : ab_J G h (b + 230) 32 g9 := (fr _ (by omega) (by omega) (by omega)).trans y9
    have w231 : ab_I G h (b + 231) 32 gA := (fr _ (by omega) (by omega) (by omega)).trans yA
    have zs := (yE _ hop).1
    have hdl : d - 1 < (O.getD o ([], 0)).1.length := by omega
    have hwy := o9 (d - 1) hdl
    have hin : (O.getD o ([], 0)).1.getD (d - 1) 0 < pl := how _ (getD_mem 0 hdl)
    obtain ⟨tn, n1, n2, n3, n4⟩ := yAa _ hin
    have hdd : (O.getD o ([], 0)).1.drop (d - 1) = (O.getD o ([], 0)).1.getD (d - 1) 0 :: (O.getD o ([], 0)).1.drop d := (by have := dr_c (A := (O.getD o ([], 0)).1) 0 hdl; rw [show d - 1 + 1 = d by omega] at this; exact this)
    have hq4 : ∀ j, j ∈ (O.getD o ([], 0)).1 → (mp j).2.1 < 4 := fun j hj => (by obtain ⟨t9, m1, _, _, m4⟩ := yAa j (how j hj); omega)
    have hcomp := mvW_c (mp := mp) (i := (O.getD o ([], 0)).1.getD (d - 1) 0) (w := (O.getD o ([], 0)).1.drop d) (hq4 _ (getD_mem 0 hdl)) (fun j hj => hq4 j (List.mem_of_mem_drop hj)) (X (O.getD o ([], 0)).2 k, Y (O.getD o ([], 0)).2 k)
    rw [← hdd] at hcomp
    refine v_iload dX13_load_88 0 rfl ?_
    refine v_iload_n dX13_load_90 rfl 3 rfl ?_
    refine v_icmp_lt (tgt := 116) dX13_load_91 (by decide) (fun c_91 => ?_) (fun c_91 => ?_)
    · exact absurd c_91 (by rw [Int32.lt_iff_toInt_lt, iN_to (by omega) (by omega), nI_toI (by omega)]; omega)
    · refine v_aload_n dX13_load_94 rfl 6 rfl ?_
      refine v_aload_n dX13_load_95 rfl 6 rfl ?_
      refine v_getf 39 (ci := 11) (C := RX13) (T := TX13) (N := 71) rfl iwX13_load_X13 (Nat.le_of_ble_eq_true rfl) (by decide +kernel) dX13_load_96 (by first | with_reducible assumption) (by repeat (first | with_reducible assumption | (with_reducible refine (sv_ls (by first | omega | (simp only [List.length_set]; omega))).trans ?_; exact rfl) | with_reducible refine (List.getElem?_set_ne (by decide)).trans ?_)) ?_
      refine v_bipush (v := 16) dX13_load_99 (by decide) ?_
      refine v_iload_n dX13_load_101 rfl 4 rfl ?_
      refine v_imul dX13_load_102 ?_
      refine v_iload dX13_load_103 0 rfl ?_
      refine v_iadd dX13_load_105 ?_
      rw [show 16 * nI o + iN ((d : Int) - 1) = nI (16 * o + (d - 1)) from by rw [show iN ((d : Int) - 1) = nI (d - 1) from congrArg iN (show (d : Int) - 1 = ((d - 1 : Nat) : Int) from by omega), sv_16a]]
      refine v_ialdS (v := nI ((O.getD o ([], 0)).1.getD (d - 1) 0)) dX13_load_106 (by first | with_reducible assumption) (vp_in_nI (by omega) (by omega)) (by rw [nI_clamp (by omega)]; exact hwy) ?_
      refine v_callVq (M' := mX13_out) (n := 1) (As := [_]) (ci := 11) (r := (RX13, TX13, 71)) gX13_load_X13_out rfl (by decide +kernel) ⟨(Nat.le_of_ble_eq_true rfl), (Nat.le_of_ble_eq_true rfl)⟩ rfl rfl dX13_load_107 rfl ⟨(Nat.le_of_ble_eq_true rfl), (Nat.le_of_ble_eq_true rfl)⟩ (Nat.le_of_ble_eq_true rfl) (by first | with_reducible assumption) rfl (m_out G tn n1 (mp ((O.getD o ([], 0)).1.getD (d - 1) 0)) n3 n4 _ b nc np pl h ((O.getD o ([], 0)).1.getD (d - 1) 0) hin yC gA w231 n2 g8 g9 w229 w230 (y8a _ hin) (y9a _ hin) fs hqf hm9 (mvA (mvW mp ((O.getD o ([], 0)).1.drop d)) (X (O.getD o ([], 0)).2 k, Y (O.getD o ([], 0)).2 k)).1 (mvA (mvW mp ((O.getD o ([], 0)).1.drop d)) (X (O.getD o ([], 0)).2 k, Y (O.getD o ([], 0)).2 k)).2 f_tx f_ty) (fun v h1 z1 hq9 => ?_)
      obtain ⟨rfl, rfl, ⟨fs1, u1, u2, u3, u4, u5⟩, u6⟩ := hq9
      have u7 : fs1[52]? = some (.long (jN (mvA (mvW mp ((O.getD o ([], 0)).1.drop (d - 1))) (X (O.getD o ([], 0)).2 k, Y (O.getD o ([], 0)).2 k)).1)) := (by rw [hcomp]; exact u4)
      have u8 : fs1[53]? = some (.long (jN (mvA (mvW mp ((O.getD o ([], 0)).1.drop (d - 1))) (X (O.getD o ([], 0)).2 k, Y (O.getD o ([], 0)).2 k)).2)) := (by rw [hcomp]; exact u5)
      refine v_iinc (j := 0) (L' := [(6, _), (5, _), (4, _), (3, _), (2, _), (1, _), (0, _)]) (v := iN (((d - 1 : Nat) : Int) - 1)) dX13_load_110 rfl (by rw [show (((d - 1 : Nat) : Int) - 1) = ((d : Int) - 1) + (-1) by omega, iN_add]; first | done | rfl) (Nat.le_of_ble_eq_true rfl) rfl ?_
      refine v_goto (tgt := 88) dX13_load_113 (by decide) ?_
      refine v_sub (L' := [(6, _), (5, _), (4, _), (3, _), (2, _), (1, _), (0, _)]) [0, 1, 2, 3, 4, 5, 6] rfl ?_
      exact ih (d - 1) h1 fs1 (by omega) (by omega) u1 u2 (hE.tr u3) u7 u8 (fun a p => (u6 a p).trans (frh a p))

set_option maxHeartbeats 4000000 in
set_option maxRecDepth 100000 in
theorem l_ldC (G : sv_G) (Qr : Option Value → sv_h → Nat → Prop) (z b nc np pl : Nat) (R : Nat → Bool) (hm p3 p4 sz : Nat → Nat) (ly vo : Nat → Int32) (mp : Nat → mvT) (X Y : Nat → Nat → Int) (hb : sv_h) (fs0 : List Value) (hq0 : mfq_ b nc np pl fs0) (MY : myl_ G hb b nc np pl R hm p3 p4 sz ly vo mp X Y) (O : List (List Nat × Nat)) (MO : moc_ G hb b O) (o : Nat) (ho : o < O.length) (hop : (O.getD o ([], 0)).2 < np) (how : ∀ i, i ∈ (O.getD o ([], 0)).1 → i < pl) (w : Nat) (hw : w < 2) (d0 : Nat) (hd0 : d0 ≤ (O.getD o ([], 0)).1.length) (hc : sv_h) (frc : (∀ a, ¬ (b + 249 ≤ a ∧ a < b + 252) → a ≠ b + 257 → a ≠ b + 220 → hc a = hb a)) (gx0 gy0 : Nat → Int64) (hk : ∀ (h : sv_h) (fs : List Value) (gx gy : Nat → Int64), h (b + 220) = some (.inr (11, fs)) → fs.length = 71 → fsE [52, 53] fs0 fs → ab_J G h (b + 250) 34 gx → ab_J G h (b + 251) 34 gy → (∀ j, j < (sz (O.getD o ([], 0)).2) → gx (17 * w + j) = jN ((crD mp X Y (O.getD o ([], 0)) d0) j).1 ∧ gy (17 * w + j) = jN ((crD mp X Y (O.getD o ([], 0)) d0) j).2) → (∀ a, ¬ (17 * w ≤ a ∧ a < 17 * w + 17) → gx a = gx0 a ∧ gy a = gy0 a) → (∀ a, a ≠ b + 220 → a ≠ b + 250 → a ≠ b + 251 → h a = hc a) → V G mX13_load (sv_MQ G mX13_load Qr) 154 [(4, .int (nI (O.getD o ([], 0)).2)), (3, .int (nI d0)), (2, .int (nI o)), (1, .int (nI w)), (0, .ref (b + 220))] [] h z 0 0) : ∀ (e k : Nat) (h : sv_h) (fs : List Value) (gx gy : Nat → Int64), k + e = sz (O.getD o ([], 0)).2 → h (b + 220) = some (.inr (11, fs)) → fs.length = 71 → fsE [52, 53] fs0 fs → ab_J G h (b + 250) 34 gx → ab_J G h (b + 251) 34 gy → (∀ j, j < k → gx (17 * w + j) = jN ((crD mp X Y (O.getD o ([], 0)) d0) j).1 ∧ gy (17 * w + j) = jN ((crD mp X Y (O.getD o ([], 0)) d0) j).2) → (∀ a, ¬ (17 * w ≤ a ∧ a < 17 * w + 17) → gx a = gx0 a ∧ gy a = gy0 a) → (∀ a, a ≠ b + 220 → a ≠ b + 250 → a ≠ b + 251 → h a = hc a) → V G mX13_load (sv_MQ G mX13_load Qr) 32 [(5, .int (nI k)), (4, .int (nI (O.getD o ([], 0)).2)), (3, .int (nI d0)), (2, .int (nI o)), (1, .int (nI w)), (0, .ref (b + 220))] [] h z 0 0 := by
  intro e
  induction e with
  | zero =>
    intro k h fs gx gy hke hm9 hl hE a1 a2 a3 a4 frh
    have fr : (∀ a, ¬ (b + 249 ≤ a ∧ a < b + 252) → a ≠ b + 257 → a ≠ b + 220 → h a = hb a) := fun a p1 p2 p3_ => (frh a p3_ (by omega) (by omega)).trans (frc a p1 p2 p3_)
    obtain ⟨⟨_, y0, _⟩, ⟨_, y1, _⟩, ⟨_, y2, _⟩, ⟨g3, y3, y3a⟩, ⟨g4, y4, y4a⟩, ⟨g5, y5, y5a⟩, ⟨_, y6, _⟩, ⟨_, y7, _⟩, ⟨g8, y8, y8a⟩, ⟨g9, y9, y9a⟩, ⟨gA, yA, yAa⟩, yB, yC, yD, yE, yF⟩ := id MY
    obtain ⟨fp, fd, fw, o1, o2, o3, o4, o5⟩ := id MO
    obtain ⟨o6, o7, o8, o9⟩ := o5 o ho
    have hqf := hq0.to (S := [52, 53]) hl hE (by decide)
    have hlen : fs.length = 71 := hl
    have f_polygon := hqf.f_polygon
    have f_ofPolygon := hqf.f_ofPolygon
    have f_sides := hqf.f_sides
    have f_size := hqf.f_size
    have f_px := hqf.f_px
    have f_py := hqf.f_py
    have f_depth := hqf.f_depth
    have f_way := hqf.f_way
    have f_cx := hqf.f_cx
    have f_cy := hqf.f_cy
    have w244 : ab_I G h (b + 244) 100 fp := (fr _ (by omega) (by omega) (by omega)).trans o1
    have w245 : ab_I G h (b + 245) 100 fd := (fr _ (by omega) (by omega) (by omega)).trans o2
    have w246 : ab_I G h (b + 246) 1616 fw := (fr _ (by omega) (by omega) (by omega)).trans o3
    have w224 : ab_I G h (b + 224) 64 g3 := (fr _ (by omega) (by omega) (by omega)).trans y3
    have w225 : ab_J G h (b + 225) 1024 g4 := (fr _ (by omega) (by omega) (by omega)).trans y4
    have w226 : ab_J G h (b + 226) 1024 g5 := (fr _ (by omega) (by omega) (by omega)).trans y5
    have w229 : ab_J G h (b + 229) 32 g8 := (fr _ (by omega) (by omega) (by omega)).trans y8
    have w230 : ab_J G h (b + 230) 32 g9 := (fr _ (by omega) (by omega) (by omega)).trans y9
    have w231 : ab_I G h (b + 231) 32 gA := (fr _ (by omega) (by omega) (by omega)).trans yA
    have zs := (yE _ hop).1
    have e9 : k = sz (O.getD o ([], 0)).2 := by omega
    subst e9
    refine v_iload dX13_load_32 0 rfl ?_
    refine v_aload_n dX13_load_34 rfl 5 rfl ?_
    refine v_getf 7 (ci := 11) (C := RX13) (T := TX13) (N := 71) rfl iwX13_load_X13 (Nat.le_of_ble_eq_true rfl) (by decide +kernel) dX13_load_35 (by repeat (first | with_reducible assumption | (with_reducible refine sv_us.trans ?_; exact rfl) | with_reducible refine (sv_un (by omega)).trans ?_)) (by repeat (first | with_reducible assumption | (with_reducible refine (sv_ls (by first | omega | (simp only [List.length_set]; omega))).trans ?_; exact rfl) | with_reducible refine (List.getElem?_set_ne (by decide)).trans ?_)) ?_
    refine v_iload dX13_load_38 1 rfl ?_
    refine v_ialdS (v := nI (sz (O.getD o ([], 0)).2)) dX13_load_40 (by repeat (first | with_reducible assumption | (with_reducible refine sv_us.trans ?_; exact rfl) | with_reducible refine (sv_un (by omega)).trans ?_)) (vp_in_nI (by omega) (by omega)) (by rw [nI_clamp (by omega)]; exact y3a _ hop) ?_
    refine v_icmp_ge (tgt := 154) dX13_load_41 (by decide) (fun c_41 => ?_) (fun c_41 => ?_)
    · refine v_sub (L' := [(4, _), (3, _), (2, _), (1, _), (0, _)]) [1, 2, 3, 4, 5] rfl ?_
      exact hk h fs gx gy hm9 hl hE a1 a2 a3 a4 frh
    · exact absurd (nI_le (Nat.le_refl _) (by omega)) c_41
  | succ e ih =>
    intro k h fs gx gy hke hm9 hl hE a1 a2 a3 a4 frh
    have fr : (∀ a, ¬ (b + 249 ≤ a ∧ a < b + 252) → a ≠ b + 257 → a ≠ b + 220 → h a = hb a) := fun a p1 p2 p3_ => (frh a p3_ (by omega) (by omega)).trans (frc a p1 p2 p3_)
    obtain ⟨⟨_, y0, _⟩, ⟨_, y1, _⟩, ⟨_, y2, _⟩, ⟨g3, y3, y3a⟩, ⟨g4, y4, y4a⟩, ⟨g5, y5, y5a⟩, ⟨_, y6, _⟩, ⟨_, y7, _⟩, ⟨g8, y8, y8a⟩, ⟨g9, y9, y9a⟩, ⟨gA, yA, yAa⟩, yB, yC, yD, yE, yF⟩ := id MY
    obtain ⟨fp, fd, fw, o1, o2, o3, o4, o5⟩ := id MO
    obtain ⟨o6, o7, o8, o9⟩ := o5 o ho
    have hqf := hq0.to (S := [52, 53]) hl hE (by decide)
    have hlen : fs.length = 71 := hl
    have f_polygon := hqf.f_polygon
    have f_ofPolygon := hqf.f_ofPolygon
    have f_sides := hqf.f_sides
    have f_size := hqf.f_size
    have f_px := hqf.f_px
    have f_py := hqf.f_py
    have f_depth := hqf.f_depth
    have f_way := hqf.f_way
    have f_cx := hqf.f_cx
    have f_cy := hqf.f_cy
    have w244 : ab_I G h (b + 244) 100 fp := (fr _ (by omega) (by omega) (by omega)).trans o1
    have w245 : ab_I G h (b + 245) 100 fd := (fr _ (by omega) (by omega) (by omega)).trans o2
    have w246 : ab_I G h (b + 246) 1616 fw := (fr _ (by omega) (by omega) (by omega)).trans o3
    have w224 : ab_I G h (b + 224) 64 g3 := (fr _ (by omega) (by omega) (by omega)).trans y3
    have w225 : ab_J G h (b + 225) 1024 g4 := (fr _ (by omega) (by omega) (by omega)).trans y4
    have w226 : ab_J G h (b + 226) 1024 g5 := (fr _ (by omega) (by omega) (by omega)).trans y5
    have w229 : ab_J G h (b + 229) 32 g8 := (fr _ (by omega) (by omega) (by omega)).trans y8
    have w230 : ab_J G h (b + 230) 32 g9 := (fr _ (by omega) (by omega) (by omega)).trans y9
    have w231 : ab_I G h (b + 231) 32 gA := (fr _ (by omega) (by omega) (by omega)).trans yA
    have zs := (yE _ hop).1
    have hkz : k < sz (O.getD o ([], 0)).2 := by omega
    refine v_iload dX13_load_32 0 rfl ?_
    refine v_aload_n dX13_load_34 rfl 5 rfl ?_
    refine v_getf 7 (ci := 11) (C := RX13) (T := TX13) (N := 71) rfl iwX13_load_X13 (Nat.le_of_ble_eq_true rfl) (by decide +kernel) dX13_load_35 (by repeat (first | with_reducible assumption | (with_reducible refine sv_us.trans ?_; exact rfl) | with_reducible refine (sv_un (by omega)).trans ?_)) (by repeat (first | with_reducible assumption | (with_reducible refine (sv_ls (by first | omega | (simp only [List.length_set]; omega))).trans ?_; exact rfl) | with_reducible refine (List.getElem?_set_ne (by decide)).trans ?_)) ?_
    refine v_iload dX13_load_38 1 rfl ?_
    refine v_ialdS (v := nI (sz (O.getD o ([], 0)).2)) dX13_load_40 (by repeat (first | with_reducible assumption | (with_reducible refine sv_us.trans ?_; exact rfl) | with_reducible refine (sv_un (by omega)).trans ?_)) (vp_in_nI (by omega) (by omega)) (by rw [nI_clamp (by omega)]; exact y3a _ hop) ?_
    refine v_icmp_ge (tgt := 154) dX13_load_41 (by decide) (fun c_41 => ?_) (fun c_41 => ?_)
    · exact absurd c_41 (nI_ge hkz (by omega))
    · refine v_aload_n dX13_load_44 rfl 5 rfl ?_
      refine v_aload_n dX13_load_45 rfl 5 rfl ?_
      refine v_getf 8 (ci := 11) (C := RX13) (T := TX13) (N := 71) rfl iwX13_load_X13 (Nat.le_of_ble_eq_true rfl) (by decide +kernel) dX13_load_46 (by repeat (first | with_reducible assumption | (with_reducible refine sv_us.trans ?_; exact rfl) | with_reducible refine (sv_un (by omega)).trans ?_)) (by repeat (first | with_reducible assumption | (with_reducible refine (sv_ls (by first | omega | (simp only [List.length_set]; omega))).trans ?_; exact rfl) | with_reducible refine (List.getElem?_set_ne (by decide)).trans ?_)) ?_
      refine v_bipush (v := 16) dX13_load_49 (by decide) ?_
      refine v_iload dX13_load_51 1 rfl ?_
      refine v_imul dX13_load_53 ?_
      refine v_iload dX13_load_54 0 rfl ?_
      refine v_iadd dX13_load_56 ?_
      rw [sv_16a]
      refine v_laldS (v := jN (X (O.getD o ([], 0)).2 k)) dX13_load_57 (by repeat (first | with_reducible assumption | (with_reducible refine sv_us.trans ?_; exact rfl) | with_reducible refine (sv_un (by omega)).trans ?_)) (vp_in_nI (by omega) (by omega)) (by rw [nI_clamp (by omega)]; exact y4a _ hop k hkz) ?_
      refine v_putf 52 (fs' := _) (ci := 11) (C := RX13) (T := TX13) (N := 71) (ty := .long) rfl iwX13_load_X13 tyX13 tyX13_ok nmX13 (Nat.le_of_ble_eq_true rfl) (by decide +kernel) rfl rfl dX13_load_58 rfl rfl (by repeat (first | with_reducible assumption | (with_reducible refine sv_us.trans ?_; exact rfl) | with_reducible refine (sv_un (by omega)).trans ?_)) (by first | omega | (simp only [List.length_set]; omega)) rfl ?_
      refine v_aload_n dX13_load_61 rfl 5 rfl ?_
      refine v_aload_n dX13_load_62 rfl 5 rfl ?_
      refine v_getf 9 (ci := 11) (C := RX13) (T := TX13) (N := 71) rfl iwX13_load_X13 (Nat.le_of_ble_eq_true rfl) (by decide +kernel) dX13_load_63 (by repeat (first | with_reducible assumption | (with_reducible refine sv_us.trans ?_; exact rfl) | with_reducible refine (sv_un (by omega)).trans ?_)) (by repeat (first | with_reducible assumption | (with_reducible refine (sv_ls (by first | omega | (simp only [List.length_set]; omega))).trans ?_; exact rfl) | with_reducible refine (List.getElem?_set_ne (by decide)).trans ?_)) ?_
      refine v_bipush (v := 16) dX13_load_66 (by decide) ?_
      refine v_iload dX13_load_68 1 rfl ?_
      refine v_imul dX13_load_70 ?_
      refine v_iload dX13_load_71 0 rfl ?_
      refine v_iadd dX13_load_73 ?_
      rw [sv_16a]
      refine v_laldS (v := jN (Y (O.getD o ([], 0)).2 k)) dX13_load_74 (by repeat (first | with_reducible assumption | (with_reducible refine sv_us.trans ?_; exact rfl) | with_reducible refine (sv_un (by omega)).trans ?_)) (vp_in_nI (by omega) (by omega)) (by rw [nI_clamp (by omega)]; exact y5a _ hop k hkz) ?_
      refine v_putf 53 (fs' := _) (ci := 11) (C := RX13) (T := TX13) (N := 71) (ty := .long) rfl iwX13_load_X13 tyX13 tyX13_ok nmX13 (Nat.le_of_ble_eq_true rfl) (by decide +kernel) rfl rfl dX13_load_75 rfl rfl (by repeat (first | with_reducible assumption | (with_reducible refine sv_us.trans ?_; exact rfl) | with_reducible refine (sv_un (by omega)).trans ?_)) (by first | omega | (simp only [List.length_set]; omega)) rfl ?_
      refine v_aload_n dX13_load_78 rfl 5 rfl ?_
      refine v_getf 38 (ci := 11) (C := RX13) (T := TX13) (N := 71) rfl iwX13_load_X13 (Nat.le_of_ble_eq_true rfl) (by decide +kernel) dX13_load_79 (by repeat (first | with_reducible assumption | (with_reducible refine sv_us.trans ?_; exact rfl) | with_reducible refine (sv_un (by omega)).trans ?_)) (by repeat (first | with_reducible assumption | (with_reducible refine (sv_ls (by first | omega | (simp only [List.length_set]; omega))).trans ?_; exact rfl) | with_reducible refine (List.getElem?_set_ne (by decide)).trans ?_)) ?_
      refine v_iload_n dX13_load_82 rfl 3 rfl ?_
      refine v_ialdS (v := nI (O.getD o ([], 0)).1.length) dX13_load_83 (by repeat (first | with_reducible assumption | (with_reducible refine sv_us.trans ?_; exact rfl) | with_reducible refine (sv_un (by omega)).trans ?_)) (vp_in_nI (by omega) (by omega)) (by rw [nI_clamp (by omega)]; exact o7) ?_
      refine v_iconst (v := 1) dX13_load_84 (by decide) ?_
      refine v_isub dX13_load_85 ?_
      rw [show nI (O.getD o ([], 0)).1.length - 1 = iN (((O.getD o ([], 0)).1.length : Int) - 1) from by rw [iN_sub]; rfl]
      refine v_istore (L' := [(6, _), (5, _), (4, _), (3, _), (2, _), (1, _), (0, _)]) dX13_load_86 (Nat.le_of_ble_eq_true rfl) rfl ?_
      refine v_sub (L' := [(6, _), (5, _), (4, _), (3, _), (2, _), (1, _), (0, _)]) [0, 1, 2, 3, 4, 5, 6] rfl ?_
      refine l_ldW G Qr _ b nc np pl R hm p3 p4 sz ly vo mp X Y hb fs0 hq0 MY O MO o ho hop how w hw d0 hd0 _ (fun a p1 p2 p3_ => (sv_un p3_).trans ((sv_un p3_).trans (fr a p1 p2 p3_))) k hkz (fun h2 fs2 v1 v2 v3 v4 v5 v6 => ?_) ((O.getD o ([], 0)).1.length - d0) (O.getD o ([], 0)).1.length _ _ (by omega) (Nat.le_refl _) sv_us (by rw [List.length_set, List.length_set]; exact hl) ((hE.st (by decide)).st (by decide)) (by rw [List.drop_length, show mvW mp [] = mvI from rfl, mvI_A]; exact (List.getElem?_set_ne (by decide)).trans (sv_ls (by omega))) (by rw [List.drop_length, show mvW mp [] = mvI from rfl, mvI_A]; exact sv_ls (by rw [List.length_set]; omega)) (fun _ _ => rfl)
      have hq2 := hq0.to (S := [52, 53]) v2 v3 (by decide)
      have hlen2 : fs2.length = 71 := v2
      have g_cx := hq2.f_cx
      have g_cy := hq2.f_cy
      have b1 : ab_J G h2 (b + 250) 34 gx := (v6 _ (by omega)).trans ((sv_un (by omega)).trans ((sv_un (by omega)).trans a1))
      have b2 : ab_J G h2 (b + 251) 34 gy := (v6 _ (by omega)).trans ((sv_un (by omega)).trans ((sv_un (by omega)).trans a2))
      refine v_aload_n dX13_load_116 rfl 5 rfl ?_
      refine v_getf 44 (ci := 11) (C := RX13) (T := TX13) (N := 71) rfl iwX13_load_X13 (Nat.le_of_ble_eq_true rfl) (by decide +kernel) dX13_load_117 (by repeat (first | with_reducible assumption | (with_reducible refine sv_us.trans ?_; exact rfl) | with_reducible refine (sv_un (by omega)).trans ?_)) (by repeat (first | with_reducible assumption | (with_reducible refine (sv_ls (by first | omega | (simp only [List.length_set]; omega))).trans ?_; exact rfl) | with_reducible refine (List.getElem?_set_ne (by decide)).trans ?_)) ?_
      refine v_bipush (v := 17) dX13_load_120 (by decide) ?_
      refine v_iload_n dX13_load_122 rfl 4 rfl ?_
      refine v_imul dX13_load_123 ?_
      refine v_iload dX13_load_124 0 rfl ?_
      refine v_iadd dX13_load_126 ?_
      refine v_aload_n dX13_load_127 rfl 5 rfl ?_
      refine v_getf 52 (ci := 11) (C := RX13) (T := TX13) (N := 71) rfl iwX13_load_X13 (Nat.le_of_ble_eq_true rfl) (by decide +kernel) dX13_load_128 (by repeat (first | with_reducible assumption | (with_reducible refine sv_us.trans ?_; exact rfl) | with_reducible refine (sv_un (by omega)).trans ?_)) (by repeat (first | with_reducible assumption | (with_reducible refine (sv_ls (by first | omega | (simp only [List.length_set]; omega))).trans ?_; exact rfl) | with_reducible refine (List.getElem?_set_ne (by decide)).trans ?_)) ?_
      rw [sv_17]
      refine v_last dX13_load_131 (by repeat (first | with_reducible assumption | (with_reducible refine sv_us.trans ?_; exact rfl) | with_reducible refine (sv_un (by omega)).trans ?_)) (vp_in_nI (by omega) (by omega)) ?_
      refine v_aload_n dX13_load_132 rfl 5 rfl ?_
      refine v_getf 45 (ci := 11) (C := RX13) (T := TX13) (N := 71) rfl iwX13_load_X13 (Nat.le_of_ble_eq_true rfl) (by decide +kernel) dX13_load_133 (by repeat (first | with_reducible assumption | (with_reducible refine sv_us.trans ?_; exact rfl) | with_reducible refine (sv_un (by omega)).trans ?_)) (by repeat (first | with_reducible assumption | (with_reducible refine (sv_ls (by first | omega | (simp only [List.length_set]; omega))).trans ?_; exact rfl) | with_reducible refine (List.getElem?_set_ne (by decide)).trans ?_)) ?_
      refine v_bipush (v := 17) dX13_load_136 (by decide) ?_
      refine v_iload_n dX13_load_138 rfl 4 rfl ?_
      refine v_imul dX13_load_139 ?_
      refine v_iload dX13_load_140 0 rfl ?_
      refine v_iadd dX13_load_142 ?_
      refine v_aload_n dX13_load_143 rfl 5 rfl ?_
      refine v_getf 53 (ci := 11) (C := RX13) (T := TX13) (N := 71) rfl iwX13_load_X13 (Nat.le_of_ble_eq_true rfl) (by decide +kernel) dX13_load_144 (by repeat (first | with_reducible assumption | (with_reducible refine sv_us.trans ?_; exact rfl) | with_reducible refine (sv_un (by omega)).trans ?_)) (by repeat (first | with_reducible assumption | (with_reducible refine (sv_ls (by first | omega | (simp only [List.length_set]; omega))).trans ?_; exact rfl) | with_reducible refine (List.getElem?_set_ne (by decide)).trans ?_)) ?_
      rw [sv_17]
      refine v_last dX13_load_147 (by repeat (first | with_reducible assumption | (with_reducible refine sv_us.trans ?_; exact rfl) | with_reducible refine (sv_un (by omega)).trans ?_)) (vp_in_nI (by omega) (by omega)) ?_
      refine v_iinc (j := 0) (L' := [(5, _), (4, _), (3, _), (2, _), (1, _), (0, _)]) (v := nI (k + 1)) dX13_load_148 rfl (nI_1 _) (Nat.le_of_ble_eq_true rfl) rfl ?_
      refine v_goto (tgt := 32) dX13_load_151 (by decide) ?_
      refine v_sub (L' := [(5, _), (4, _), (3, _), (2, _), (1, _), (0, _)]) [0, 1, 2, 3, 4, 5] rfl ?_
      rw [nI_clamp (show 17 * w + k < 2 ^ 31 by omega)]
      refine ih (k + 1) _ fs2 (vp_updL gx (17 * w + k) _) (vp_updL gy (17 * w + k) _) (by omega) ((sv_un (by omega)).trans ((sv_un (by omega)).trans v1)) v2 v3 ((sv_un (by omega)).trans sv_us) sv_us (fun j hj => ?_) (fun a p => ⟨(pk_uLn (by omega)).trans (a4 a p).1, (pk_uLn (by omega)).trans (a4 a p).2⟩) (fun a p1 p2 p3_ => (sv_un p3_).trans ((sv_un p2).trans ((v6 a p1).trans ((sv_un p1).trans ((sv_un p1).trans (frh a p1 p2 p3_))))))
      by_cases e9 : j = k
      · subst e9; exact ⟨pk_uLs, pk_uLs⟩
      · exact ⟨(pk_uLn (by omega)).trans (a3 j (by omega)).1, (pk_uLn (by omega)).trans (a3 j (by omega)).2⟩

set_option maxHeartbeats 4000000 in
set_option maxRecDepth 100000 in
theorem t_ld154 (G : sv_G) (z b nc np pl : Nat) (R : Nat → Bool) (hm p3 p4 sz : Nat → Nat) (ly vo : Nat → Int32) (mp : Nat → mvT) (X Y : Nat → Nat → Int) (hb : sv_h) (fs0 : List Value) (hq0 : mfq_ b nc np pl fs0) (MY : myl_ G hb b nc np pl R hm p3 p4 sz ly vo mp X Y) (O : List (List Nat × Nat)) (MO : moc_ G hb b O) (o : Nat) (ho : o < O.length) (hop : (O.getD o ([], 0)).2 < np) (how : ∀ i, i ∈ (O.getD o ([], 0)).1 → i < pl) (w : Nat) (hw : w < 2) (d0 : Nat) (hd0 : d0 ≤ (O.getD o ([], 0)).1.length) (hm0 : hb (b + 220) = some (.inr (11, fs0))) (fsd0 fo0 ft : Nat → Int32) (gx0 gy0 : Nat → Int64) (ff0 : Nat → Int32) (gp0 gl0 gh0 : Nat → Int64) (e49 : ab_I G hb (b + 249) 2 fsd0) (e50 : ab_J G hb (b + 250) 34 gx0) (e51 : ab_J G hb (b + 251) 34 gy0) (e52 : ab_Z G hb (b + 252) 2 ft) (e53 : ab_I G hb (b + 253) 32 ff0) (e54 : ab_J G hb (b + 254) 32 gp0) (e55 : ab_J G hb (b + 255) 32 gl0) (e56 : ab_J G hb (b + 256) 32 gh0) (e57 : ab_I G hb (b + 257) 2 fo0) (hz0 : 0 < sz (O.getD o ([], 0)).2) (hcb : cbd (crD mp X Y (O.getD o ([], 0)) d0) (sz (O.getD o ([], 0)).2)) (h : sv_h) (fs : List Value) (gx gy : Nat → Int64) (hm9 : h (b + 220) = some (.inr (11, fs))) (hl : fs.length = 71) (hE : fsE [52, 53] fs0 fs) (a1 : ab_J G h (b + 250) 34 gx) (a2 : ab_J G h (b + 251) 34 gy) (a3 : ∀ j, j < sz (O.getD o ([], 0)).2 → gx (17 * w + j) = jN ((crD mp X Y (O.getD o ([], 0)) d0) j).1 ∧ gy (17 * w + j) = jN ((crD mp X Y (O.getD o ([], 0)) d0) j).2) (a4 : ∀ a, ¬ (17 * w ≤ a ∧ a < 17 * w + 17) → gx a = gx0 a ∧ gy a = gy0 a) (frh : ∀ a, a ≠ b + 220 → a ≠ b + 250 → a ≠ b + 251 → h a = (va_up (va_up hb (b + 257) (some (.inl (G.2.2.1 0, 2, .inl (upd fo0 w (nI (O.getD o ([], 0)).2)))))) (b + 249) (some (.inl (G.2.2.1 0, 2, .inl (upd fsd0 w (nI (sz (O.getD o ([], 0)).2))))))) a) : V G mX13_load (sv_MQ G mX13_load (fun v h1 z1 => v = none ∧ z1 = z ∧ (∃ fs1, h1 (b + 220) = some (.inr (11, fs1)) ∧ fs1.length = 71 ∧ fsE [52, 53] fs0 fs1) ∧ (∃ fsd, ab_I G h1 (b + 249) 2 fsd ∧ fsd w = nI (sz (O.getD o ([], 0)).2) ∧ ∀ a, a ≠ w → fsd a = fsd0 a) ∧ (∃ fo, ab_I G h1 (b + 257) 2 fo ∧ fo w = nI (O.getD o ([], 0)).2 ∧ ∀ a, a ≠ w → fo a = fo0 a) ∧ (∃ gx gy, ab_J G h1 (b + 250) 34 gx ∧ ab_J G h1 (b + 251) 34 gy ∧ (∀ j, j ≤ sz (O.getD o ([], 0)).2 → gx (17 * w + j) = jN (crR (crD mp X Y (O.getD o ([], 0)) d0) (sz (O.getD o ([], 0)).2) j).1 ∧ gy (17 * w + j) = jN (crR (crD mp X Y (O.getD o ([], 0)) d0) (sz (O.getD o ([], 0)).2) j).2) ∧ ∀ a, ¬ (17 * w ≤ a ∧ a < 17 * w + 17) → gx a = gx0 a ∧ gy a = gy0 a) ∧ (∃ ft1, ab_Z G h1 (b + 252) 2 ft1 ∧ ft1 w = (if 0 < (twS (crR (crD mp X Y (O.getD o ([], 0)) d0) (sz (O.getD o ([], 0)).2)) (sz (O.getD o ([], 0)).2)) then 1 else 0) ∧ ∀ a, a ≠ w → ft1 a = ft a) ∧ (∃ ff gp gl gh, ab_I G h1 (b + 253) 32 ff ∧ ab_J G h1 (b + 254) 32 gp ∧ ab_J G h1 (b + 255) 32 gl ∧ ab_J G h1 (b + 256) 32 gh ∧ (∀ i, i < sz (O.getD o ([], 0)).2 → ff (16 * w + i) = nI (fcM (twS (crR (crD mp X Y (O.getD o ([], 0)) d0) (sz (O.getD o ([], 0)).2)) (sz (O.getD o ([], 0)).2)) (crR (crD mp X Y (O.getD o ([], 0)) d0) (sz (O.getD o ([], 0)).2)) i) ∧ gp (16 * w + i) = jN (itM (crR (crD mp X Y (O.getD o ([], 0)) d0) (sz (O.getD o ([], 0)).2)) i).1 ∧ gl (16 * w + i) = jN (itM (crR (crD mp X Y (O.getD o ([], 0)) d0) (sz (O.getD o ([], 0)).2)) i).2.1 ∧ gh (16 * w + i) = jN (itM (crR (crD mp X Y (O.getD o ([], 0)) d0) (sz (O.getD o ([], 0)).2)) i).2.2) ∧ ∀ a, ¬ (16 * w ≤ a ∧ a < 16 * w + 16) → ff a = ff0 a ∧ gp a = gp0 a ∧ gl a = gl0 a ∧ gh a = gh0 a) ∧ ∀ a, ¬ (b + 249 ≤ a ∧ a < b + 258) → a ≠ b + 220 → h1 a = hb a)) 154 [(4, .int (nI (O.getD o ([], 0)).2)), (3, .int (nI d0)), (2, .int (nI o)), (1, .int (nI w)), (0, .ref (b + 220))] [] h z 0 0 := by
  have fr : (∀ a, ¬ (b + 249 ≤ a ∧ a < b + 252) → a ≠ b + 257 → a ≠ b + 220 → h a = hb a) := fun a p1 p2 p3_ => (frh a p3_ (by omega) (by omega)).trans ((sv_un (by omega)).trans (sv_un (by omega)))
  obtain ⟨⟨_, y0, _⟩, ⟨_, y1, _⟩, ⟨_, y2, _⟩, ⟨g3, y3, y3a⟩, ⟨g4, y4, y4a⟩, ⟨g5, y5, y5a⟩, ⟨_, y6, _⟩, ⟨_, y7, _⟩, ⟨g8, y8, y8a⟩, ⟨g9, y9, y9a⟩, ⟨gA, yA, yAa⟩, yB, yC, yD, yE, yF⟩ := id MY
  obtain ⟨fp, fd, fw, o1, o2, o3, o4, o5⟩ := id MO
  obtain ⟨o6, o7, o8, o9⟩ := o5 o ho
  have hqf := hq0.to (S := [52, 53]) hl hE (by decide)
  have hlen : fs.length = 71 := hl
  have f_polygon := hqf.f_polygon
  have f_ofPolygon := hqf.f_ofPolygon
  have f_sides := hqf.f_sides
  have f_size := hqf.f_size
  have f_px := hqf.f_px
  have f_py := hqf.f_py
  have f_depth := hqf.f_depth
  have f_way := hqf.f_way
  have f_cx := hqf.f_cx
  have f_cy := hqf.f_cy
  have w244 : ab_I G h (b + 244) 100 fp := (fr _ (by omega) (by omega) (by omega)).trans o1
  have w245 : ab_I G h (b + 245) 100 fd := (fr _ (by omega) (by omega) (by omega)).trans o2
  have w246 : ab_I G h (b + 246) 1616 fw := (fr _ (by omega) (by omega) (by omega)).trans o3
  have w224 : ab_I G h (b + 224) 64 g3 := (fr _ (by omega) (by omega) (by omega)).trans y3
  have w225 : ab_J G h (b + 225) 1024 g4 := (fr _ (by omega) (by omega) (by omega)).trans y4
  have w226 : ab_J G h (b + 226) 1024 g5 := (fr _ (by omega) (by omega) (by omega)).trans y5
  have w229 : ab_J G h (b + 229) 32 g8 := (fr _ (by omega) (by omega) (by omega)).trans y8
  have w230 : ab_J G h (b + 230) 32 g9 := (fr _ (by omega) (by omega) (by omega)).trans y9
  have w231 : ab_I G h (b + 231) 32 gA := (fr _ (by omega) (by omega) (by omega)).trans yA
  have zs := (yE _ hop).1
  have hcr : cbd (crR (crD mp X Y (O.getD o ([], 0)) d0) (sz (O.getD o ([], 0)).2)) (sz (O.getD o ([], 0)).2 + 1) := fun j hj => (by
    unfold crR
    split
    · exact hcb 0 hz0
    · exact hcb j (by omega))
  have hxy : ∀ j, j ≤ sz (O.getD o ([], 0)).2 → (vp_updL gx (17 * w + sz (O.getD o ([], 0)).2) (jN ((crD mp X Y (O.getD o ([], 0)) d0) 0).1)) (17 * w + j) = jN ((crR (crD mp X Y (O.getD o ([], 0)) d0) (sz (O.getD o ([], 0)).2)) j).1 ∧ (vp_updL gy (17 * w + sz (O.getD o ([], 0)).2) (jN ((crD mp X Y (O.getD o ([], 0)) d0) 0).2)) (17 * w + j) = jN ((crR (crD mp X Y (O.getD o ([], 0)) d0) (sz (O.getD o ([], 0)).2)) j).2 := fun j hj => (by
    by_cases e9 : j = sz (O.getD o ([], 0)).2
    · subst e9
      unfold crR
      rw [if_pos rfl]
      exact ⟨pk_uLs, pk_uLs⟩
    · unfold crR
      rw [if_neg e9]
      exact ⟨(pk_uLn (by omega)).trans (a3 j (by omega)).1, (pk_uLn (by omega)).trans (a3 j (by omega)).2⟩)
  refine v_aload_n dX13_load_154 rfl 4 rfl ?_
  refine v_getf 44 (ci := 11) (C := RX13) (T := TX13) (N := 71) rfl iwX13_load_X13 (Nat.le_of_ble_eq_true rfl) (by decide +kernel) dX13_load_155 (by repeat (first | with_reducible assumption | (with_reducible refine sv_us.trans ?_; exact rfl) | with_reducible refine (sv_un (by omega)).trans ?_)) (by repeat (first | with_reducible assumption | (with_reducible refine (sv_ls (by first | omega | (simp only [List.length_set]; omega))).trans ?_; exact rfl) | with_reducible refine (List.getElem?_set_ne (by decide)).trans ?_)) ?_
  refine v_bipush (v := 17) dX13_load_158 (by decide) ?_
  refine v_iload_n dX13_load_160 rfl 3 rfl ?_
  refine v_imul dX13_load_161 ?_
  refine v_aload_n dX13_load_162 rfl 4 rfl ?_
  refine v_getf 7 (ci := 11) (C := RX13) (T := TX13) (N := 71) rfl iwX13_load_X13 (Nat.le_of_ble_eq_true rfl) (by decide +kernel) dX13_load_163 (by repeat (first | with_reducible assumption | (with_reducible refine sv_us.trans ?_; exact rfl) | with_reducible refine (sv_un (by omega)).trans ?_)) (by repeat (first | with_reducible assumption | (with_reducible refine (sv_ls (by first | omega | (simp only [List.length_set]; omega))).trans ?_; exact rfl) | with_reducible refine (List.getElem?_set_ne (by decide)).trans ?_)) ?_
  refine v_iload dX13_load_166 0 rfl ?_
  refine v_ialdS (v := nI (sz (O.getD o ([], 0)).2)) dX13_load_168 (by repeat (first | with_reducible assumption | (with_reducible refine sv_us.trans ?_; exact rfl) | with_reducible refine (sv_un (by omega)).trans ?_)) (vp_in_nI (by omega) (by omega)) (by rw [nI_clamp (by omega)]; exact y3a _ hop) ?_
  refine v_iadd dX13_load_169 ?_
  rw [sv_17]
  refine v_aload_n dX13_load_170 rfl 4 rfl ?_
  refine v_getf 44 (ci := 11) (C := RX13) (T := TX13) (N := 71) rfl iwX13_load_X13 (Nat.le_of_ble_eq_true rfl) (by decide +kernel) dX13_load_171 (by repeat (first | with_reducible assumption | (with_reducible refine sv_us.trans ?_; exact rfl) | with_reducible refine (sv_un (by omega)).trans ?_)) (by repeat (first | with_reducible assumption | (with_reducible refine (sv_ls (by first | omega | (simp only [List.length_set]; omega))).trans ?_; exact rfl) | with_reducible refine (List.getElem?_set_ne (by decide)).trans ?_)) ?_
  refine v_bipush (v := 17) dX13_load_174 (by decide) ?_
  refine v_iload_n dX13_load_176 rfl 3 rfl ?_
  refine v_imul dX13_load_177 ?_
  rw [sv_170]
  refine v_laldS (v := jN ((crD mp X Y (O.getD o ([], 0)) d0) 0).1) dX13_load_178 (by repeat (first | with_reducible assumption | (with_reducible refine sv_us.trans ?_; exact rfl) | with_reducible refine (sv_un (by omega)).trans ?_)) (vp_in_nI (by omega) (by omega)) (by rw [nI_clamp (by omega)]; exact (a3 0 hz0).1) ?_
  refine v_last dX13_load_179 (by repeat (first | with_reducible assumption | (with_reducible refine sv_us.trans ?_; exact rfl) | with_reducible refine (sv_un (by omega)).trans ?_)) (vp_in_nI (by omega) (by omega)) ?_
  refine v_aload_n dX13_load_180 rfl 4 rfl ?_
  refine v_getf 45 (ci := 11) (C := RX13) (T := TX13) (N := 71) rfl iwX13_load_X13 (Nat.le_of_ble_eq_true rfl) (by decide +kernel) dX13_load_181 (by repeat (first | with_reducible assumption | (with_reducible refine sv_us.trans ?_; exact rfl) | with_reducible refine (sv_un (by omega)).trans ?_)) (by repeat (first | with_reducible assumption | (with_reducible refine (sv_ls (by first | omega | (simp only [List.length_set]; omega))).trans ?_; exact rfl) | with_reducible refine (List.getElem?_set_ne (by decide)).trans ?_)) ?_
  refine v_bipush (v := 17) dX13_load_184 (by decide) ?_
  refine v_iload_n dX13_load_186 rfl 3 rfl ?_
  refine v_imul dX13_load_187 ?_
  refine v_aload_n dX13_load_188 rfl 4 rfl ?_
  refine v_getf 7 (ci := 11) (C := RX13) (T := TX13) (N := 71) rfl iwX13_load_X13 (Nat.le_of_ble_eq_true rfl) (by decide +kernel) dX13_load_189 (by repeat (first | with_reducible assumption | (with_reducible refine sv_us.trans ?_; exact rfl) | with_reducible refine (sv_un (by omega)).trans ?_)) (by repeat (first | with_reducible assumption | (with_reducible refine (sv_ls (by first | omega | (simp only [List.length_set]; omega))).trans ?_; exact rfl) | with_reducible refine (List.getElem?_set_ne (by decide)).trans ?_)) ?_
  refine v_iload dX13_load_192 0 rfl ?_
  refine v_ialdS (v := nI (sz (O.getD o ([], 0)).2)) dX13_load_194 (by repeat (first | with_reducible assumption | (with_reducible refine sv_us.trans ?_; exact rfl) | with_reducible refine (sv_un (by omega)).trans ?_)) (vp_in_nI (by omega) (by omega)) (by rw [nI_clamp (by omega)]; exact y3a _ hop) ?_
  refine v_iadd dX13_load_195 ?_
  rw [sv_17]
  refine v_aload_n dX13_load_196 rfl 4 rfl ?_
  refine v_getf 45 (ci := 11) (C := RX13) (T := TX13) (N := 71) rfl iwX13_load_X13 (Nat.le_of_ble_eq_true rfl) (by decide +kernel) dX13_load_197 (by repeat (first | with_reducible assumption | (with_reducible refine sv_us.trans ?_; exact rfl) | with_reducible refine (sv_un (by omega)).trans ?_)) (by repeat (first | with_reducible assumption | (with_reducible refine (sv_ls (by first | omega | (simp only [List.length_set]; omega))).trans ?_; exact rfl) | with_reducible refine (List.getElem?_set_ne (by decide)).trans ?_)) ?_
  refine v_bipush (v := 17) dX13_load_200 (by decide) ?_
  refine v_iload_n dX13_load_202 rfl 3 rfl ?_
  refine v_imul dX13_load_203 ?_
  rw [sv_170]
  refine v_laldS (v := jN ((crD mp X Y (O.getD o ([], 0)) d0) 0).2) dX13_load_204 (by repeat (first | with_reducible assumption | (with_reducible refine sv_us.trans ?_; exact rfl) | with_reducible refine (sv_un (by omega)).trans ?_)) (vp_in_nI (by omega) (by omega)) (by rw [nI_clamp (by omega)]; exact (a3 0 hz0).2) ?_
  refine v_last dX13_load_205 (by repeat (first | with_reducible assumption | (with_reducible refine sv_us.trans ?_; exact rfl) | with_reducible refine (sv_un (by omega)).trans ?_)) (vp_in_nI (by omega) (by omega)) ?_
  rw [nI_clamp (show 17 * w + sz (O.getD o ([], 0)).2 < 2 ^ 31 by omega)]
  refine v_aload_n dX13_load_206 rfl 4 rfl ?_
  refine v_iload_n dX13_load_207 rfl 3 rfl ?_
  refine v_callVq (M' := mX13_findSides) (n := 1) (As := [_]) (ci := 11) (r := (RX13, TX13, 71)) gX13_load_X13_findSides rfl (by decide +kernel) ⟨(Nat.le_of_ble_eq_true rfl), (Nat.le_of_ble_eq_true rfl)⟩ rfl rfl dX13_load_208 rfl ⟨(Nat.le_of_ble_eq_true rfl), (Nat.le_of_ble_eq_true rfl)⟩ (Nat.le_of_ble_eq_true rfl) (by repeat (first | with_reducible assumption | (with_reducible refine sv_us.trans ?_; exact rfl) | with_reducible refine (sv_un (by omega)).trans ?_)) rfl (m_findSides G _ b nc np pl _ fs hqf ((sv_un (by omega)).trans ((sv_un (by omega)).trans hm9)) w (sz (O.getD o ([], 0)).2) hw (by omega) (crR (crD mp X Y (O.getD o ([], 0)) d0) (sz (O.getD o ([], 0)).2)) hcr (upd fsd0 w (nI (sz (O.getD o ([], 0)).2))) ((sv_un (by omega)).trans ((sv_un (by omega)).trans ((frh _ (by omega) (by omega) (by omega)).trans sv_us))) (if_pos rfl) (vp_updL gx (17 * w + sz (O.getD o ([], 0)).2) (jN ((crD mp X Y (O.getD o ([], 0)) d0) 0).1)) (vp_updL gy (17 * w + sz (O.getD o ([], 0)).2) (jN ((crD mp X Y (O.getD o ([], 0)) d0) 0).2)) ((sv_un (by omega)).trans sv_us) sv_us (fun j hj => (hxy j hj).1) (fun j hj => (hxy j hj).2) ft ((sv_un (by omega)).trans ((sv_un (by omega)).trans ((frh _ (by omega) (by omega) (by omega)).trans ((sv_un (by omega)).trans ((sv_un (by omega)).trans e52))))) ff0 gp0 gl0 gh0 ((sv_un (by omega)).trans ((sv_un (by omega)).trans ((frh _ (by omega) (by omega) (by omega)).trans ((sv_un (by omega)).trans ((sv_un (by omega)).trans e53))))) ((sv_un (by omega)).trans ((sv_un (by omega)).trans ((frh _ (by omega) (by omega) (by omega)).trans ((sv_un (by omega)).trans ((sv_un (by omega)).trans e54))))) ((sv_un (by omega)).trans ((sv_un (by omega)).trans ((frh _ (by omega) (by omega) (by omega)).trans ((sv_un (by omega)).trans ((sv_un (by omega)).trans e55))))) ((sv_un (by omega)).trans ((sv_un (by omega)).trans ((frh _ (by omega) (by omega) (by omega)).trans ((sv_un (by omega)).trans ((sv_un (by omega)).trans e56)))))) (fun v h1 z1 hq9 => ?_)
  obtain ⟨rfl, rfl, d1, d2, d3⟩ := hq9
  exact v_ret rfl dX13_load_211 (Nat.le_of_ble_eq_true rfl) (Nat.le_of_ble_eq_true rfl) ⟨rfl, rfl, ⟨fs, (d3 _ (by omega)).trans ((sv_un (by omega)).trans ((sv_un (by omega)).trans hm9)), hl, hE⟩, ⟨(upd fsd0 w (nI (sz (O.getD o ([], 0)).2))), (d3 _ (by omega)).trans ((sv_un (by omega)).trans ((sv_un (by omega)).trans ((frh _ (by omega) (by omega) (by omega)).trans sv_us))), if_pos rfl, fun a p => if_neg p⟩, ⟨(upd fo0 w (nI (O.getD o ([], 0)).2)), (d3 _ (by omega)).trans ((sv_un (by omega)).trans ((sv_un (by omega)).trans ((frh _ (by omega) (by omega) (by omega)).trans ((sv_un (by omega)).trans sv_us)))), if_pos rfl, fun a p => if_neg p⟩, ⟨(vp_updL gx (17 * w + sz (O.getD o ([], 0)).2) (jN ((crD mp X Y (O.getD o ([], 0)) d0) 0).1)), (vp_updL gy (17 * w + sz (O.getD o ([], 0)).2) (jN ((crD mp X Y (O.getD o ([], 0)) d0) 0).2)), (d3 _ (by omega)).trans ((sv_un (by omega)).trans sv_us), (d3 _ (by omega)).trans sv_us, hxy, fun a p => ⟨(pk_uLn (by omega)).trans (a4 a p).1, (pk_uLn (by omega)).trans (a4 a p).2⟩⟩, d1, d2, fun a p1 p2 => (d3 a (by omega)).trans ((sv_un (by omega)).trans ((sv_un (by omega)).trans ((frh a p2 (by omega) (by omega)).trans ((sv_un (by omega)).trans (sv_un (by omega))))))⟩

set_option maxHeartbeats 4000000 in
set_option maxRecDepth 100000 in
theorem m_load (G : sv_G) (z b nc np pl : Nat) (R : Nat → Bool) (hm p3 p4 sz : Nat → Nat) (ly vo : Nat → Int32) (mp : Nat → mvT) (X Y : Nat → Nat → Int) (hb : sv_h) (fs0 : List Value) (hq0 : mfq_ b nc np pl fs0) (MY : myl_ G hb b nc np pl R hm p3 p4 sz ly vo mp X Y) (O : List (List Nat × Nat)) (MO : moc_ G hb b O) (o : Nat) (ho : o < O.length) (hop : (O.getD o ([], 0)).2 < np) (how : ∀ i, i ∈ (O.getD o ([], 0)).1 → i < pl) (w : Nat) (hw : w < 2) (d0 : Nat) (hd0 : d0 ≤ (O.getD o ([], 0)).1.length) (hm9 : hb (b + 220) = some (.inr (11, fs0))) (fsd0 fo0 ft : Nat → Int32) (gx0 gy0 : Nat → Int64) (ff0 : Nat → Int32) (gp0 gl0 gh0 : Nat → Int64) (e49 : ab_I G hb (b + 249) 2 fsd0) (e50 : ab_J G hb (b + 250) 34 gx0) (e51 : ab_J G hb (b + 251) 34 gy0) (e52 : ab_Z G hb (b + 252) 2 ft) (e53 : ab_I G hb (b + 253) 32 ff0) (e54 : ab_J G hb (b + 254) 32 gp0) (e55 : ab_J G hb (b + 255) 32 gl0) (e56 : ab_J G hb (b + 256) 32 gh0) (e57 : ab_I G hb (b + 257) 2 fo0) (hz0 : 0 < sz (O.getD o ([], 0)).2) (hcb : cbd (crD mp X Y (O.getD o ([], 0)) d0) (sz (O.getD o ([], 0)).2)) : CT G mX13_load [.ref (b + 220), .int (nI w), .int (nI o), .int (nI d0)] hb z (fun v h1 z1 => v = none ∧ z1 = z ∧ (∃ fs1, h1 (b + 220) = some (.inr (11, fs1)) ∧ fs1.length = 71 ∧ fsE [52, 53] fs0 fs1) ∧ (∃ fsd, ab_I G h1 (b + 249) 2 fsd ∧ fsd w = nI (sz (O.getD o ([], 0)).2) ∧ ∀ a, a ≠ w → fsd a = fsd0 a) ∧ (∃ fo, ab_I G h1 (b + 257) 2 fo ∧ fo w = nI (O.getD o ([], 0)).2 ∧ ∀ a, a ≠ w → fo a = fo0 a) ∧ (∃ gx gy, ab_J G h1 (b + 250) 34 gx ∧ ab_J G h1 (b + 251) 34 gy ∧ (∀ j, j ≤ sz (O.getD o ([], 0)).2 → gx (17 * w + j) = jN (crR (crD mp X Y (O.getD o ([], 0)) d0) (sz (O.getD o ([], 0)).2) j).1 ∧ gy (17 * w + j) = jN (crR (crD mp X Y (O.getD o ([], 0)) d0) (sz (O.getD o ([], 0)).2) j).2) ∧ ∀ a, ¬ (17 * w ≤ a ∧ a < 17 * w + 17) → gx a = gx0 a ∧ gy a = gy0 a) ∧ (∃ ft1, ab_Z G h1 (b + 252) 2 ft1 ∧ ft1 w = (if 0 < (twS (crR (crD mp X Y (O.getD o ([], 0)) d0) (sz (O.getD o ([], 0)).2)) (sz (O.getD o ([], 0)).2)) then 1 else 0) ∧ ∀ a, a ≠ w → ft1 a = ft a) ∧ (∃ ff gp gl gh, ab_I G h1 (b + 253) 32 ff ∧ ab_J G h1 (b + 254) 32 gp ∧ ab_J G h1 (b + 255) 32 gl ∧ ab_J G h1 (b + 256) 32 gh ∧ (∀ i, i < sz (O.getD o ([], 0)).2 → ff (16 * w + i) = nI (fcM (twS (crR (crD mp X Y (O.getD o ([], 0)) d0) (sz (O.getD o ([], 0)).2)) (sz (O.getD o ([], 0)).2)) (crR (crD mp X Y (O.getD o ([], 0)) d0) (sz (O.getD o ([], 0)).2)) i) ∧ gp (16 * w + i) = jN (itM (crR (crD mp X Y (O.getD o ([], 0)) d0) (sz (O.getD o ([], 0)).2)) i).1 ∧ gl (16 * w + i) = jN (itM (crR (crD mp X Y (O.getD o ([], 0)) d0) (sz (O.getD o ([], 0)).2)) i).2.1 ∧ gh (16 * w + i) = jN (itM (crR (crD mp X Y (O.getD o ([], 0)) d0) (sz (O.getD o ([], 0)).2)) i).2.2) ∧ ∀ a, ¬ (16 * w ≤ a ∧ a < 16 * w + 16) → ff a = ff0 a ∧ gp a = gp0 a ∧ gl a = gl0 a ∧ gh a = gh0 a) ∧ ∀ a, ¬ (b + 249 ≤ a ∧ a < b + 258) → a ≠ b + 220 → h1 a = hb a) := by
  refine CT.of (by decide +kernel) rfl rfl (Nat.le_of_ble_eq_true rfl) ?_
  have hl := hq0.1
  have hE : fsE [52, 53] fs0 fs0 := fsE.rf
  have fr : (∀ a, ¬ (b + 249 ≤ a ∧ a < b + 252) → a ≠ b + 257 → a ≠ b + 220 → hb a = hb a) := fun _ _ _ _ => rfl
  obtain ⟨⟨_, y0, _⟩, ⟨_, y1, _⟩, ⟨_, y2, _⟩, ⟨g3, y3, y3a⟩, ⟨g4, y4, y4a⟩, ⟨g5, y5, y5a⟩, ⟨_, y6, _⟩, ⟨_, y7, _⟩, ⟨g8, y8, y8a⟩, ⟨g9, y9, y9a⟩, ⟨gA, yA, yAa⟩, yB, yC, yD, yE, yF⟩ := id MY
  obtain ⟨fp, fd, fw, o1, o2, o3, o4, o5⟩ := id MO
  obtain ⟨o6, o7, o8, o9⟩ := o5 o ho
  have hqf := hq0.to (S := [52, 53]) hl hE (by decide)
  have hlen : fs0.length = 71 := hl
  have f_polygon := hqf.f_polygon
  have f_ofPolygon := hqf.f_ofPolygon
  have f_sides := hqf.f_sides
  have f_size := hqf.f_size
  have f_px := hqf.f_px
  have f_py := hqf.f_py
  have f_depth := hqf.f_depth
  have f_way := hqf.f_way
  have f_cx := hqf.f_cx
  have f_cy := hqf.f_cy
  have w244 : ab_I G hb (b + 244) 100 fp := (fr _ (by omega) (by omega) (by omega)).trans o1
  have w245 : ab_I G hb (b + 245) 100 fd := (fr _ (by omega) (by omega) (by omega)).trans o2
  have w246 : ab_I G hb (b + 246) 1616 fw := (fr _ (by omega) (by omega) (by omega)).trans o3
  have w224 : ab_I G hb (b + 224) 64 g3 := (fr _ (by omega) (by omega) (by omega)).trans y3
  have w225 : ab_J G hb (b + 225) 1024 g4 := (fr _ (by omega) (by omega) (by omega)).trans y4
  have w226 : ab_J G hb (b + 226) 1024 g5 := (fr _ (by omega) (by omega) (by omega)).trans y5
  have w229 : ab_J G hb (b + 229) 32 g8 := (fr _ (by omega) (by omega) (by omega)).trans y8
  have w230 : ab_J G hb (b + 230) 32 g9 := (fr _ (by omega) (by omega) (by omega)).trans y9
  have w231 : ab_I G hb (b + 231) 32 gA := (fr _ (by omega) (by omega) (by omega)).trans yA
  have zs := (yE _ hop).1
  refine v_aload_n dX13_load_0 rfl 0 rfl ?_
  refine v_getf 37 (ci := 11) (C := RX13) (T := TX13) (N := 71) rfl iwX13_load_X13 (Nat.le_of_ble_eq_true rfl) (by decide +kernel) dX13_load_1 (by repeat (first | with_reducible assumption | (with_reducible refine sv_us.trans ?_; exact rfl) | with_reducible refine (sv_un (by omega)).trans ?_)) (by repeat (first | with_reducible assumption | (with_reducible refine (sv_ls (by first | omega | (simp only [List.length_set]; omega))).trans ?_; exact rfl) | with_reducible refine (List.getElem?_set_ne (by decide)).trans ?_)) ?_
  refine v_iload_n dX13_load_4 rfl 2 rfl ?_
  refine v_ialdS (v := nI (O.getD o ([], 0)).2) dX13_load_5 (by repeat (first | with_reducible assumption | (with_reducible refine sv_us.trans ?_; exact rfl) | with_reducible refine (sv_un (by omega)).trans ?_)) (vp_in_nI (by omega) (by omega)) (by rw [nI_clamp (by omega)]; exact o6) ?_
  refine v_istore (L' := [(4, _), (0, _), (1, _), (2, _), (3, _)]) dX13_load_6 (Nat.le_of_ble_eq_true rfl) rfl ?_
  refine v_aload_n dX13_load_8 rfl 1 rfl ?_
  refine v_getf 51 (ci := 11) (C := RX13) (T := TX13) (N := 71) rfl iwX13_load_X13 (Nat.le_of_ble_eq_true rfl) (by decide +kernel) dX13_load_9 (by repeat (first | with_reducible assumption | (with_reducible refine sv_us.trans ?_; exact rfl) | with_reducible refine (sv_un (by omega)).trans ?_)) (by repeat (first | with_reducible assumption | (with_reducible refine (sv_ls (by first | omega | (simp only [List.length_set]; omega))).trans ?_; exact rfl) | with_reducible refine (List.getElem?_set_ne (by decide)).trans ?_)) ?_
  refine v_iload_n dX13_load_12 rfl 2 rfl ?_
  refine v_iload dX13_load_13 0 rfl ?_
  refine v_iast dX13_load_15 (by repeat (first | with_reducible assumption | (with_reducible refine sv_us.trans ?_; exact rfl) | with_reducible refine (sv_un (by omega)).trans ?_)) (vp_in_nI (by omega) (by omega)) ?_
  refine v_aload_n dX13_load_16 rfl 1 rfl ?_
  refine v_getf 43 (ci := 11) (C := RX13) (T := TX13) (N := 71) rfl iwX13_load_X13 (Nat.le_of_ble_eq_true rfl) (by decide +kernel) dX13_load_17 (by repeat (first | with_reducible assumption | (with_reducible refine sv_us.trans ?_; exact rfl) | with_reducible refine (sv_un (by omega)).trans ?_)) (by repeat (first | with_reducible assumption | (with_reducible refine (sv_ls (by first | omega | (simp only [List.length_set]; omega))).trans ?_; exact rfl) | with_reducible refine (List.getElem?_set_ne (by decide)).trans ?_)) ?_
  refine v_iload_n dX13_load_20 rfl 2 rfl ?_
  refine v_aload_n dX13_load_21 rfl 1 rfl ?_
  refine v_getf 7 (ci := 11) (C := RX13) (T := TX13) (N := 71) rfl iwX13_load_X13 (Nat.le_of_ble_eq_true rfl) (by decide +kernel) dX13_load_22 (by repeat (first | with_reducible assumption | (with_reducible refine sv_us.trans ?_; exact rfl) | with_reducible refine (sv_un (by omega)).trans ?_)) (by repeat (first | with_reducible assumption | (with_reducible refine (sv_ls (by first | omega | (simp only [List.length_set]; omega))).trans ?_; exact rfl) | with_reducible refine (List.getElem?_set_ne (by decide)).trans ?_)) ?_
  refine v_iload dX13_load_25 0 rfl ?_
  refine v_ialdS (v := nI (sz (O.getD o ([], 0)).2)) dX13_load_27 (by repeat (first | with_reducible assumption | (with_reducible refine sv_us.trans ?_; exact rfl) | with_reducible refine (sv_un (by omega)).trans ?_)) (vp_in_nI (by omega) (by omega)) (by rw [nI_clamp (by omega)]; exact y3a _ hop) ?_
  refine v_iast dX13_load_28 (by repeat (first | with_reducible assumption | (with_reducible refine sv_us.trans ?_; exact rfl) | with_reducible refine (sv_un (by omega)).trans ?_)) (vp_in_nI (by omega) (by omega)) ?_
  refine v_iconst (v := 0) dX13_load_29 (by decide) ?_
  refine v_istore (L' := [(5, _), (4, _), (0, _), (1, _), (2, _), (3, _)]) dX13_load_30 (Nat.le_of_ble_eq_true rfl) rfl ?_
  refine v_sub (L' := [(5, _), (4, _), (3, _), (2, _), (1, _), (0, _)]) [0, 1, 5, 4, 3, 2] rfl ?_
  rw [nI_clamp (show w < 2 ^ 31 by omega)]
  exact l_ldC G _ _ b nc np pl R hm p3 p4 sz ly vo mp X Y hb fs0 hq0 MY O MO o ho hop how w hw d0 hd0 (va_up (va_up hb (b + 257) (some (.inl (G.2.2.1 0, 2, .inl (upd fo0 w (nI (O.getD o ([], 0)).2)))))) (b + 249) (some (.inl (G.2.2.1 0, 2, .inl (upd fsd0 w (nI (sz (O.getD o ([], 0)).2))))))) (fun a p1 p2 p3_ => (sv_un (by omega)).trans (sv_un (by omega))) gx0 gy0 (fun h2 fs2 gx gy v1 v2 v3 v4 v5 v6 v7 v8 => t_ld154 G _ b nc np pl R hm p3 p4 sz ly vo mp X Y hb fs0 hq0 MY O MO o ho hop how w hw d0 hd0 hm9 fsd0 fo0 ft gx0 gy0 ff0 gp0 gl0 gh0 e49 e50 e51 e52 e53 e54 e55 e56 e57 hz0 hcb h2 fs2 gx gy v1 v2 v3 v4 v5 v6 v7 v8) (sz (O.getD o ([], 0)).2) 0 (va_up (va_up hb (b + 257) (some (.inl (G.2.2.1 0, 2, .inl (upd fo0 w (nI (O.getD o ([], 0)).2)))))) (b + 249) (some (.inl (G.2.2.1 0, 2, .inl (upd fsd0 w (nI (sz (O.getD o ([], 0)).2))))))) fs0 gx0 gy0 (Nat.zero_add _) ((sv_un (by omega)).trans ((sv_un (by omega)).trans hm9)) hq0.1 fsE.rf ((sv_un (by omega)).trans ((sv_un (by omega)).trans e50)) ((sv_un (by omega)).trans ((sv_un (by omega)).trans e51)) (fun j hj => absurd hj (Nat.not_lt_zero j)) (fun _ _ => ⟨rfl, rfl⟩) (fun _ _ _ _ => rfl)

