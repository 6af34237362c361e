theorem iwX10_add_X10 : ∀ w ∈ wsX100, w ∈ wsX10_add := by decide +kernel
theorem dX10_add_0 : decode cX10_add 0 = .ok (.aload_n 0, 1) := by decide +kernel
theorem dX10_add_1 : decode cX10_add 1 = .ok (.getfield 20, 3) := by decide +kernel
theorem dX10_add_4 : decode cX10_add 4 = .ok (.sipush 1500, 3) := by decide +kernel
theorem dX10_add_7 : decode cX10_add 7 = .ok (.if_icmp .lt 9, 3) := by decide +kernel
theorem dX10_add_10 : decode cX10_add 10 = .ok (.aload_n 0, 1) := by decide +kernel
theorem dX10_add_11 : decode cX10_add 11 = .ok (.iconst 1, 1) := by decide +kernel
theorem dX10_add_12 : decode cX10_add 12 = .ok (.putfield 27, 3) := by decide +kernel
theorem dX10_add_15 : decode cX10_add 15 = .ok (.return_, 1) := by decide +kernel
theorem dX10_add_16 : decode cX10_add 16 = .ok (.aload_n 0, 1) := by decide +kernel
theorem dX10_add_17 : decode cX10_add 17 = .ok (.getfield 20, 3) := by decide +kernel
theorem dX10_add_20 : decode cX10_add 20 = .ok (.bipush 12, 2) := by decide +kernel
theorem dX10_add_22 : decode cX10_add 22 = .ok (.imul, 1) := by decide +kernel
theorem dX10_add_23 : decode cX10_add 23 = .ok (.istore 9, 2) := by decide +kernel
theorem dX10_add_25 : decode cX10_add 25 = .ok (.aload_n 0, 1) := by decide +kernel
theorem dX10_add_26 : decode cX10_add 26 = .ok (.getfield 9, 3) := by decide +kernel
theorem dX10_add_29 : decode cX10_add 29 = .ok (.iload 9, 2) := by decide +kernel
theorem dX10_add_31 : decode cX10_add 31 = .ok (.iconst 0, 1) := by decide +kernel
theorem dX10_add_32 : decode cX10_add 32 = .ok (.iadd, 1) := by decide +kernel
theorem dX10_add_33 : decode cX10_add 33 = .ok (.iload_n 1, 1) := by decide +kernel
theorem dX10_add_34 : decode cX10_add 34 = .ok (.i2l, 1) := by decide +kernel
theorem dX10_add_35 : decode cX10_add 35 = .ok (.lastore, 1) := by decide +kernel
theorem dX10_add_36 : decode cX10_add 36 = .ok (.aload_n 0, 1) := by decide +kernel
theorem dX10_add_37 : decode cX10_add 37 = .ok (.getfield 9, 3) := by decide +kernel
theorem dX10_add_40 : decode cX10_add 40 = .ok (.iload 9, 2) := by decide +kernel
theorem dX10_add_42 : decode cX10_add 42 = .ok (.iconst 1, 1) := by decide +kernel
theorem dX10_add_43 : decode cX10_add 43 = .ok (.iadd, 1) := by decide +kernel
theorem dX10_add_44 : decode cX10_add 44 = .ok (.iload_n 2, 1) := by decide +kernel
theorem dX10_add_45 : decode cX10_add 45 = .ok (.i2l, 1) := by decide +kernel
theorem dX10_add_46 : decode cX10_add 46 = .ok (.lastore, 1) := by decide +kernel
theorem dX10_add_47 : decode cX10_add 47 = .ok (.aload_n 0, 1) := by decide +kernel
theorem dX10_add_48 : decode cX10_add 48 = .ok (.getfield 9, 3) := by decide +kernel
theorem dX10_add_51 : decode cX10_add 51 = .ok (.iload 9, 2) := by decide +kernel
theorem dX10_add_53 : decode cX10_add 53 = .ok (.iconst 2, 1) := by decide +kernel
theorem dX10_add_54 : decode cX10_add 54 = .ok (.iadd, 1) := by decide +kernel
theorem dX10_add_55 : decode cX10_add 55 = .ok (.iload_n 3, 1) := by decide +kernel
theorem dX10_add_56 : decode cX10_add 56 = .ok (.i2l, 1) := by decide +kernel
theorem dX10_add_57 : decode cX10_add 57 = .ok (.lastore, 1) := by decide +kernel
theorem dX10_add_58 : decode cX10_add 58 = .ok (.aload_n 0, 1) := by decide +kernel
theorem dX10_add_59 : decode cX10_add 59 = .ok (.getfield 9, 3) := by decide +kernel
theorem dX10_add_62 : decode cX10_add 62 = .ok (.iload 9, 2) := by decide +kernel
theorem dX10_add_64 : decode cX10_add 64 = .ok (.iconst 3, 1) := by decide +kernel
theorem dX10_add_65 : decode cX10_add 65 = .ok (.iadd, 1) := by decide +kernel
theorem dX10_add_66 : decode cX10_add 66 = .ok (.iload 4, 2) := by decide +kernel
theorem dX10_add_68 : decode cX10_add 68 = .ok (.i2l, 1) := by decide +kernel
theorem dX10_add_69 : decode cX10_add 69 = .ok (.lastore, 1) := by decide +kernel
theorem dX10_add_70 : decode cX10_add 70 = .ok (.aload_n 0, 1) := by decide +kernel
theorem dX10_add_71 : decode cX10_add 71 = .ok (.getfield 9, 3) := by decide +kernel
theorem dX10_add_74 : decode cX10_add 74 = .ok (.iload 9, 2) := by decide +kernel
theorem dX10_add_76 : decode cX10_add 76 = .ok (.iconst 4, 1) := by decide +kernel
theorem dX10_add_77 : decode cX10_add 77 = .ok (.iadd, 1) := by decide +kernel
theorem dX10_add_78 : decode cX10_add 78 = .ok (.iload 5, 2) := by decide +kernel
theorem dX10_add_80 : decode cX10_add 80 = .ok (.i2l, 1) := by decide +kernel
theorem dX10_add_81 : decode cX10_add 81 = .ok (.lastore, 1) := by decide +kernel
theorem dX10_add_82 : decode cX10_add 82 = .ok (.aload_n 0, 1) := by decide +kernel
theorem dX10_add_83 : decode cX10_add 83 = .ok (.getfield 9, 3) := by decide +kernel
theorem dX10_add_86 : decode cX10_add 86 = .ok (.iload 9, 2) := by decide +kernel
theorem dX10_add_88 : decode cX10_add 88 = .ok (.iconst 5, 1) := by decide +kernel
theorem dX10_add_89 : decode cX10_add 89 = .ok (.iadd, 1) := by decide +kernel
theorem dX10_add_90 : decode cX10_add 90 = .ok (.iload 6, 2) := by decide +kernel
theorem dX10_add_92 : decode cX10_add 92 = .ok (.i2l, 1) := by decide +kernel
theorem dX10_add_93 : decode cX10_add 93 = .ok (.lastore, 1) := by decide +kernel
theorem dX10_add_94 : decode cX10_add 94 = .ok (.aload_n 0, 1) := by decide +kernel
theorem dX10_add_95 : decode cX10_add 95 = .ok (.getfield 9, 3) := by decide +kernel
theorem dX10_add_98 : decode cX10_add 98 = .ok (.iload 9, 2) := by decide +kernel
theorem dX10_add_100 : decode cX10_add 100 = .ok (.bipush 6, 2) := by decide +kernel
theorem dX10_add_102 : decode cX10_add 102 = .ok (.iadd, 1) := by decide +kernel
theorem dX10_add_103 : decode cX10_add 103 = .ok (.lload 7, 2) := by decide +kernel
theorem dX10_add_105 : decode cX10_add 105 = .ok (.lastore, 1) := by decide +kernel
theorem dX10_add_106 : decode cX10_add 106 = .ok (.aload_n 0, 1) := by decide +kernel
theorem dX10_add_107 : decode cX10_add 107 = .ok (.getfield 9, 3) := by decide +kernel
theorem dX10_add_110 : decode cX10_add 110 = .ok (.iload 9, 2) := by decide +kernel
theorem dX10_add_112 : decode cX10_add 112 = .ok (.bipush 7, 2) := by decide +kernel
theorem dX10_add_114 : decode cX10_add 114 = .ok (.iadd, 1) := by decide +kernel
theorem dX10_add_115 : decode cX10_add 115 = .ok (.aload_n 0, 1) := by decide +kernel
theorem dX10_add_116 : decode cX10_add 116 = .ok (.getfield 31, 3) := by decide +kernel
theorem dX10_add_119 : decode cX10_add 119 = .ok (.i2l, 1) := by decide +kernel
theorem dX10_add_120 : decode cX10_add 120 = .ok (.lastore, 1) := by decide +kernel
theorem dX10_add_121 : decode cX10_add 121 = .ok (.aload_n 0, 1) := by decide +kernel
theorem dX10_add_122 : decode cX10_add 122 = .ok (.getfield 9, 3) := by decide +kernel
theorem dX10_add_125 : decode cX10_add 125 = .ok (.iload 9, 2) := by decide +kernel
theorem dX10_add_127 : decode cX10_add 127 = .ok (.iconst 0, 1) := by decide +kernel
theorem dX10_add_128 : decode cX10_add 128 = .ok (.iadd, 1) := by decide +kernel
theorem dX10_add_129 : decode cX10_add 129 = .ok (.aload_n 0, 1) := by decide +kernel
theorem dX10_add_130 : decode cX10_add 130 = .ok (.getfield 9, 3) := by decide +kernel
theorem dX10_add_133 : decode cX10_add 133 = .ok (.iload 9, 2) := by decide +kernel
theorem dX10_add_135 : decode cX10_add 135 = .ok (.bipush 8, 2) := by decide +kernel
theorem dX10_add_137 : decode cX10_add 137 = .ok (.iadd, 1) := by decide +kernel
theorem dX10_add_138 : decode cX10_add 138 = .ok (.iconst 4, 1) := by decide +kernel
theorem dX10_add_139 : decode cX10_add 139 = .ok (.invokestatic 34, 3) := by decide +kernel
theorem dX10_add_142 : decode cX10_add 142 = .ok (.aload_n 0, 1) := by decide +kernel
theorem dX10_add_143 : decode cX10_add 143 = .ok (.getfield 13, 3) := by decide +kernel
theorem dX10_add_146 : decode cX10_add 146 = .ok (.aload_n 0, 1) := by decide +kernel
theorem dX10_add_147 : decode cX10_add 147 = .ok (.getfield 24, 3) := by decide +kernel
theorem dX10_add_150 : decode cX10_add 150 = .ok (.aload_n 0, 1) := by decide +kernel
theorem dX10_add_151 : decode cX10_add 151 = .ok (.getfield 20, 3) := by decide +kernel
theorem dX10_add_154 : decode cX10_add 154 = .ok (.iastore, 1) := by decide +kernel
theorem dX10_add_155 : decode cX10_add 155 = .ok (.aload_n 0, 1) := by decide +kernel
theorem dX10_add_156 : decode cX10_add 156 = .ok (.dup, 1) := by decide +kernel
theorem dX10_add_157 : decode cX10_add 157 = .ok (.getfield 24, 3) := by decide +kernel
theorem dX10_add_160 : decode cX10_add 160 = .ok (.iconst 1, 1) := by decide +kernel
theorem dX10_add_161 : decode cX10_add 161 = .ok (.iadd, 1) := by decide +kernel
theorem dX10_add_162 : decode cX10_add 162 = .ok (.putfield 24, 3) := by decide +kernel
theorem dX10_add_165 : decode cX10_add 165 = .ok (.aload_n 0, 1) := by decide +kernel
theorem dX10_add_166 : decode cX10_add 166 = .ok (.dup, 1) := by decide +kernel
theorem dX10_add_167 : decode cX10_add 167 = .ok (.getfield 20, 3) := by decide +kernel
theorem dX10_add_170 : decode cX10_add 170 = .ok (.iconst 1, 1) := by decide +kernel
theorem dX10_add_171 : decode cX10_add 171 = .ok (.iadd, 1) := by decide +kernel
theorem dX10_add_172 : decode cX10_add 172 = .ok (.putfield 20, 3) := by decide +kernel
theorem dX10_add_175 : decode cX10_add 175 = .ok (.return_, 1) := by decide +kernel

abbrev mX10_add : sv_M := (cX10_add, 10, yX10_add, wsX10_add, none, { frames := 2, cells := 0, slots := 0, locals := 80 }, [])
theorem gd_l {α : Type} (E : List α) (r d : α) {k : Nat} (h : k < E.length) : (E ++ [r]).getD k d = E.getD k d := by
  rw [List.getD_eq_getElem?_getD, List.getD_eq_getElem?_getD, List.getElem?_append_left h]
theorem gd_n {α : Type} (E : List α) (r d : α) : (E ++ [r]).getD E.length d = r := by
  rw [List.getD_eq_getElem?_getD, List.getElem?_append_right (Nat.le_refl _), Nat.sub_self]; rfl
/-- the list of violations at t: the rows E, in their order, or overfull -/
def tE (G : sv_G) (h : sv_h) (t : Nat) (hm : Int32) (E : List (List Int64)) : Prop := ∃ (x : Nat) (ro : Nat → Int64) (od st : Nat → Int32) (us sz ov : Int32), ab_told G h t x ro od st us sz ov hm ∧ ((E.length ≤ 1500 ∧ us = nI E.length ∧ sz = nI E.length ∧ ov = 0 ∧ ∀ k, k < E.length → od k = nI k ∧ ∀ j, j < 12 → ro (12 * k + j) = (E.getD k []).getD j 0) ∨ (1500 < E.length ∧ us = nI 1500 ∧ ov = 1))
/-- a row -/
def rw_ (x0 y0 x1 y1 a c : Int32) (m : Int64) (hm : Int32) : List Int64 := [x0.toInt64, y0.toInt64, x1.toInt64, y1.toInt64, a.toInt64, c.toInt64, m, hm.toInt64, x0.toInt64, y0.toInt64, x1.toInt64, y1.toInt64]
theorem ta_lo {ro : Nat → Int64} {n : Nat} {x0 y0 x1 y1 a c hm : Int32} {m : Int64} {i : Nat} (h : i < 12 * n) : (vp_updL (vp_updL (vp_updL (vp_updL (vp_updL (vp_updL (vp_updL (vp_updL ro (12 * n + 0) x0.toInt64) (12 * n + 1) y0.toInt64) (12 * n + 2) x1.toInt64) (12 * n + 3) y1.toInt64) (12 * n + 4) a.toInt64) (12 * n + 5) c.toInt64) (12 * n + 6) m) (12 * n + 7) hm.toInt64) i = ro i := (pk_uLn (by omega)).trans ((pk_uLn (by omega)).trans ((pk_uLn (by omega)).trans ((pk_uLn (by omega)).trans ((pk_uLn (by omega)).trans ((pk_uLn (by omega)).trans ((pk_uLn (by omega)).trans ((pk_uLn (by omega)).trans (rfl))))))))
theorem ta_0 {ro : Nat → Int64} {n : Nat} {x0 y0 x1 y1 a c hm : Int32} {m : Int64} : (vp_updL (vp_updL (vp_updL (vp_updL (vp_updL (vp_updL (vp_updL (vp_updL ro (12 * n + 0) x0.toInt64) (12 * n + 1) y0.toInt64) (12 * n + 2) x1.toInt64) (12 * n + 3) y1.toInt64) (12 * n + 4) a.toInt64) (12 * n + 5) c.toInt64) (12 * n + 6) m) (12 * n + 7) hm.toInt64) (12 * n + 0) = x0.toInt64 := (pk_uLn (by omega)).trans ((pk_uLn (by omega)).trans ((pk_uLn (by omega)).trans ((pk_uLn (by omega)).trans ((pk_uLn (by omega)).trans ((pk_uLn (by omega)).trans ((pk_uLn (by omega)).trans (pk_uLs)))))))
theorem ta_1 {ro : Nat → Int64} {n : Nat} {x0 y0 x1 y1 a c hm : Int32} {m : Int64} : (vp_updL (vp_updL (vp_updL (vp_updL (vp_updL (vp_updL (vp_updL (vp_updL ro (12 * n + 0) x0.toInt64) (12 * n + 1) y0.toInt64) (12 * n + 2) x1.toInt64) (12 * n + 3) y1.toInt64) (12 * n + 4) a.toInt64) (12 * n + 5) c.toInt64) (12 * n + 6) m) (12 * n + 7) hm.toInt64) (12 * n + 1) = y0.toInt64 := (pk_uLn (by omega)).trans ((pk_uLn (by omega)).trans ((pk_uLn (by omega)).trans ((pk_uLn (by omega)).trans ((pk_uLn (by omega)).trans ((pk_uLn (by omega)).trans (pk_uLs))))))
theorem ta_2 {ro : Nat → Int64} {n : Nat} {x0 y0 x1 y1 a c hm : Int32} {m : Int64} : (vp_updL (vp_updL (vp_updL (vp_updL (vp_updL (vp_updL (vp_updL (vp_updL ro (12 * n + 0) x0.toInt64) (12 * n + 1) y0.toInt64) (12 * n + 2) x1.toInt64) (12 * n + 3) y1.toInt64) (12 * n + 4) a.toInt64) (12 * n + 5) c.toInt64) (12 * n + 6) m) (12 * n + 7) hm.toInt64) (12 * n + 2) = x1.toInt64 := (pk_uLn (by omega)).trans ((pk_uLn (by omega)).trans ((pk_uLn (by omega)).trans ((pk_uLn (by omega)).trans ((pk_uLn (by omega)).trans (pk_uLs)))))
theorem ta_3 {ro : Nat → Int64} {n : Nat} {x0 y0 x1 y1 a c hm : Int32} {m : Int64} : (vp_updL (vp_updL (vp_updL (vp_updL (vp_updL (vp_updL (vp_updL (vp_updL ro (12 * n + 0) x0.toInt64) (12 * n + 1) y0.toInt64) (12 * n + 2) x1.toInt64) (12 * n + 3) y1.toInt64) (12 * n + 4) a.toInt64) (12 * n + 5) c.toInt64) (12 * n + 6) m) (12 * n + 7) hm.toInt64) (12 * n + 3) = y1.toInt64 := (pk_uLn (by omega)).trans ((pk_uLn (by omega)).trans ((pk_uLn (by omega)).trans ((pk_uLn (by omega)).trans (pk_uLs))))
theorem ta_4 {ro : Nat → Int64} {n : Nat} {x0 y0 x1 y1 a c hm : Int32} {m : Int64} : (vp_updL (vp_updL (vp_updL (vp_updL (vp_updL (vp_updL (vp_updL (vp_updL ro (12 * n + 0) x0.toInt64) (12 * n + 1) y0.toInt64) (12 * n + 2) x1.toInt64) (12 * n + 3) y1.toInt64) (12 * n + 4) a.toInt64) (12 * n + 5) c.toInt64) (12 * n + 6) m) (12 * n + 7) hm.toInt64) (12 * n + 4) = a.toInt64 := (pk_uLn (by omega)).trans ((pk_uLn (by omega)).trans ((pk_uLn (by omega)).trans (pk_uLs)))
theorem ta_5 {ro : Nat → Int64} {n : Nat} {x0 y0 x1 y1 a c hm : Int32} {m : Int64} : (vp_updL (vp_updL (vp_updL (vp_updL (vp_updL (vp_updL (vp_updL (vp_updL ro (12 * n + 0) x0.toInt64) (12 * n + 1) y0.toInt64) (12 * n + 2) x1.toInt64) (12 * n + 3) y1.toInt64) (12 * n + 4) a.toInt64) (12 * n + 5) c.toInt64) (12 * n + 6) m) (12 * n + 7) hm.toInt64) (12 * n + 5) = c.toInt64 := (pk_uLn (by omega)).trans ((pk_uLn (by omega)).trans (pk_uLs))
theorem ta_6 {ro : Nat → Int64} {n : Nat} {x0 y0 x1 y1 a c hm : Int32} {m : Int64} : (vp_updL (vp_updL (vp_updL (vp_updL (vp_updL (vp_updL (vp_updL (vp_updL ro (12 * n + 0) x0.toInt64) (12 * n + 1) y0.toInt64) (12 * n + 2) x1.toInt64) (12 * n + 3) y1.toInt64) (12 * n + 4) a.toInt64) (12 * n + 5) c.toInt64) (12 * n + 6) m) (12 * n + 7) hm.toInt64) (12 * n + 6) = m := (pk_uLn (by omega)).trans (pk_uLs)
theorem ta_7 {ro : Nat → Int64} {n : Nat} {x0 y0 x1 y1 a c hm : Int32} {m : Int64} : (vp_updL (vp_updL (vp_updL (vp_updL (vp_updL (vp_updL (vp_updL (vp_updL ro (12 * n + 0) x0.toInt64) (12 * n + 1) y0.toInt64) (12 * n + 2) x1.toInt64) (12 * n + 3) y1.toInt64) (12 * n + 4) a.toInt64) (12 * n + 5) c.toInt64) (12 * n + 6) m) (12 * n + 7) hm.toInt64) (12 * n + 7) = hm.toInt64 := pk_uLs
theorem ta_row {ro : Nat → Int64} {n : Nat} {x0 y0 x1 y1 a c hm : Int32} {m : Int64} : ∀ j, j < 12 → va_cpy (vp_updL (vp_updL (vp_updL (vp_updL (vp_updL (vp_updL (vp_updL (vp_updL ro (12 * n + 0) x0.toInt64) (12 * n + 1) y0.toInt64) (12 * n + 2) x1.toInt64) (12 * n + 3) y1.toInt64) (12 * n + 4) a.toInt64) (12 * n + 5) c.toInt64) (12 * n + 6) m) (12 * n + 7) hm.toInt64) (vp_updL (vp_updL (vp_updL (vp_updL (vp_updL (vp_updL (vp_updL (vp_updL ro (12 * n + 0) x0.toInt64) (12 * n + 1) y0.toInt64) (12 * n + 2) x1.toInt64) (12 * n + 3) y1.toInt64) (12 * n + 4) a.toInt64) (12 * n + 5) c.toInt64) (12 * n + 6) m) (12 * n + 7) hm.toInt64) (12 * n + 0) (12 * n + 8) 4 (12 * n + j) = (rw_ x0 y0 x1 y1 a c m hm).getD j 0 := by
  intro j hj
  unfold va_cpy
  have : j = 0 ∨ j = 1 ∨ j = 2 ∨ j = 3 ∨ j = 4 ∨ j = 5 ∨ j = 6 ∨ j = 7 ∨ j = 8 ∨ j = 9 ∨ j = 10 ∨ j = 11 := by omega
  rcases this with rfl | rfl | rfl | rfl | rfl | rfl | rfl | rfl | rfl | rfl | rfl | rfl
  · rw [if_neg (by omega)]; exact ta_0
  · rw [if_neg (by omega)]; exact ta_1
  · rw [if_neg (by omega)]; exact ta_2
  · rw [if_neg (by omega)]; exact ta_3
  · rw [if_neg (by omega)]; exact ta_4
  · rw [if_neg (by omega)]; exact ta_5
  · rw [if_neg (by omega)]; exact ta_6
  · rw [if_neg (by omega)]; exact ta_7
  · rw [if_pos (by omega), show 12 * n + 0 + (12 * n + 8 - (12 * n + 8)) = 12 * n + 0 by omega]; exact ta_0
  · rw [if_pos (by omega), show 12 * n + 0 + (12 * n + 9 - (12 * n + 8)) = 12 * n + 1 by omega]; exact ta_1
  · rw [if_pos (by omega), show 12 * n + 0 + (12 * n + 10 - (12 * n + 8)) = 12 * n + 2 by omega]; exact ta_2
  · rw [if_pos (by omega), show 12 * n + 0 + (12 * n + 11 - (12 * n + 8)) = 12 * n + 3 by omega]; exact ta_3
theorem ta_old {ro : Nat → Int64} {n : Nat} {x0 y0 x1 y1 a c hm : Int32} {m : Int64} {i : Nat} (h : i < 12 * n) : va_cpy (vp_updL (vp_updL (vp_updL (vp_updL (vp_updL (vp_updL (vp_updL (vp_updL ro (12 * n + 0) x0.toInt64) (12 * n + 1) y0.toInt64) (12 * n + 2) x1.toInt64) (12 * n + 3) y1.toInt64) (12 * n + 4) a.toInt64) (12 * n + 5) c.toInt64) (12 * n + 6) m) (12 * n + 7) hm.toInt64) (vp_updL (vp_updL (vp_updL (vp_updL (vp_updL (vp_updL (vp_updL (vp_updL ro (12 * n + 0) x0.toInt64) (12 * n + 1) y0.toInt64) (12 * n + 2) x1.toInt64) (12 * n + 3) y1.toInt64) (12 * n + 4) a.toInt64) (12 * n + 5) c.toInt64) (12 * n + 6) m) (12 * n + 7) hm.toInt64) (12 * n + 0) (12 * n + 8) 4 i = ro i := by
  unfold va_cpy
  rw [if_neg (by omega)]; exact ta_lo h
set_option maxHeartbeats 4000000 in
set_option maxRecDepth 100000 in
theorem c_add1 (G : sv_G) (h : sv_h) (z t x : Nat) (ro : Nat → Int64) (od st : Nat → Int32) (us sz ov hm : Int32) (T : ab_told G h t x ro od st us sz ov hm) (hu : us = nI 1500) (x0 y0 x1 y1 a c : Int32) (m : Int64) : CT G mX10_add [.ref t, .int x0, .int y0, .int x1, .int y1, .int a, .int c, .long m] h z (fun v h1 z1 => v = none ∧ z1 = z ∧ ab_told G h1 t x ro od st us sz 1 hm ∧ ∀ w, ¬ (t ≤ w ∧ w < t + 4) → h1 w = h w) := by
  refine CT.of (by decide +kernel) rfl rfl (Nat.le_of_ble_eq_true rfl) ?_
  obtain ⟨g1, g2, g3, g4, g5⟩ := id T
  refine v_aload_n dX10_add_0 rfl 0 rfl ?_
  refine v_getf 1 (ci := 8) (C := RX10) (T := TX10) (N := 7) rfl iwX10_add_X10 (Nat.le_of_ble_eq_true rfl) (by decide +kernel) dX10_add_1 (by repeat (first | with_reducible assumption | (with_reducible refine sv_us.trans ?_; exact rfl) | with_reducible refine (sv_un (by omega)).trans ?_)) (by exact rfl) ?_
  refine v_sipush (v := 1500) dX10_add_4 (by decide) ?_
  refine v_icmp_lt (tgt := 16) dX10_add_7 (by decide) (fun c_7 => ?_) (fun c_7 => ?_)
  · exact absurd c_7 (by rw [hu]; decide)
  · refine v_aload_n dX10_add_10 rfl 0 rfl ?_
    refine v_iconst (v := 1) dX10_add_11 (by decide) ?_
    refine v_putf 5 (fs' := [_, _, _, _, _, _, _]) (ci := 8) (C := RX10) (T := TX10) (N := 7) (ty := .boolean) rfl iwX10_add_X10 tyX10 tyX10_ok nmX10 (Nat.le_of_ble_eq_true rfl) (by decide +kernel) rfl rfl dX10_add_12 rfl rfl (by repeat (first | with_reducible assumption | (with_reducible refine sv_us.trans ?_; exact rfl) | with_reducible refine (sv_un (by omega)).trans ?_)) (Nat.le_of_ble_eq_true rfl) rfl ?_
    exact v_ret rfl dX10_add_15 (Nat.le_of_ble_eq_true rfl) (Nat.le_of_ble_eq_true rfl) ⟨rfl, rfl, ⟨g1, sv_us, (sv_un (by omega)).trans g3, (sv_un (by omega)).trans g4, (sv_un (by omega)).trans g5⟩, fun w p => sv_un (by omega)⟩

set_option maxHeartbeats 4000000 in
set_option maxRecDepth 100000 in
theorem c_add0 (G : sv_G) (h : sv_h) (z t x : Nat) (ro : Nat → Int64) (od st : Nat → Int32) (us sz ov hm : Int32) (T : ab_told G h t x ro od st us sz ov hm) (n : Nat) (hn : n < 1500) (hu : us = nI n) (hs : sz = nI n) (x0 y0 x1 y1 a c : Int32) (m : Int64) : CT G mX10_add [.ref t, .int x0, .int y0, .int x1, .int y1, .int a, .int c, .long m] h z (fun v h1 z1 => v = none ∧ z1 = z ∧ (∃ (ro1 : Nat → Int64) (od1 : Nat → Int32), ab_told G h1 t x ro1 od1 st (nI (n + 1)) (nI (n + 1)) ov hm ∧ (∀ i, i < 12 * n → ro1 i = ro i) ∧ (∀ j, j < 12 → ro1 (12 * n + j) = (rw_ x0 y0 x1 y1 a c m hm).getD j 0) ∧ (∀ k, k < n → od1 k = od k) ∧ od1 n = nI n) ∧ ∀ w, ¬ (t ≤ w ∧ w < t + 4) → h1 w = h w) := by
  refine CT.of (by decide +kernel) rfl rfl (Nat.le_of_ble_eq_true rfl) ?_
  obtain ⟨g1, g2, g3, g4, g5⟩ := id T
  refine v_aload_n dX10_add_0 rfl 0 rfl ?_
  refine v_getf 1 (ci := 8) (C := RX10) (T := TX10) (N := 7) rfl iwX10_add_X10 (Nat.le_of_ble_eq_true rfl) (by decide +kernel) dX10_add_1 (by repeat (first | with_reducible assumption | (with_reducible refine sv_us.trans ?_; exact rfl) | with_reducible refine (sv_un (by omega)).trans ?_)) (by exact rfl) ?_
  refine v_sipush (v := 1500) dX10_add_4 (by decide) ?_
  refine v_icmp_lt (tgt := 16) dX10_add_7 (by decide) (fun c_7 => ?_) (fun c_7 => ?_)
  · refine v_aload_n dX10_add_16 rfl 0 rfl ?_
    refine v_getf 1 (ci := 8) (C := RX10) (T := TX10) (N := 7) rfl iwX10_add_X10 (Nat.le_of_ble_eq_true rfl) (by decide +kernel) dX10_add_17 (by repeat (first | with_reducible assumption | (with_reducible refine sv_us.trans ?_; exact rfl) | with_reducible refine (sv_un (by omega)).trans ?_)) (by exact rfl) ?_
    refine v_bipush (v := 12) dX10_add_20 (by decide) ?_
    refine v_imul dX10_add_22 ?_
    rw [hu, show nI n * 12 = nI (12 * n) from by rw [show (12 : Int32) = nI 12 from rfl, sv_nm2, Nat.mul_comm]]
    refine v_istore (L' := [(9, _), (0, _), (1, _), (2, _), (3, _), (4, _), (5, _), (6, _), (7, _)]) dX10_add_23 (Nat.le_of_ble_eq_true rfl) rfl ?_
    refine v_aload_n dX10_add_25 rfl 1 rfl ?_
    refine v_getf 0 (ci := 8) (C := RX10) (T := TX10) (N := 7) rfl iwX10_add_X10 (Nat.le_of_ble_eq_true rfl) (by decide +kernel) dX10_add_26 (by repeat (first | with_reducible assumption | (with_reducible refine sv_us.trans ?_; exact rfl) | with_reducible refine (sv_un (by omega)).trans ?_)) (by exact rfl) ?_
    refine v_iload dX10_add_29 0 rfl ?_
    refine v_iconst (v := 0) dX10_add_31 (by decide) ?_
    refine v_iadd dX10_add_32 ?_
    rw [show nI (12 * n) + 0 = nI (12 * n + 0) from nI_add (12 * n) 0]
    refine v_iload_n dX10_add_33 rfl 2 rfl ?_
    refine v_i2l dX10_add_34 rfl ?_
    refine v_last dX10_add_35 (by repeat (first | with_reducible assumption | (with_reducible refine sv_us.trans ?_; exact rfl) | with_reducible refine (sv_un (by omega)).trans ?_)) (vp_in_nI (by omega) (by omega)) ?_
    refine v_aload_n dX10_add_36 rfl 1 rfl ?_
    refine v_getf 0 (ci := 8) (C := RX10) (T := TX10) (N := 7) rfl iwX10_add_X10 (Nat.le_of_ble_eq_true rfl) (by decide +kernel) dX10_add_37 (by repeat (first | with_reducible assumption | (with_reducible refine sv_us.trans ?_; exact rfl) | with_reducible refine (sv_un (by omega)).trans ?_)) (by exact rfl) ?_
    refine v_iload dX10_add_40 0 rfl ?_
    refine v_iconst (v := 1) dX10_add_42 (by decide) ?_
    refine v_iadd dX10_add_43 ?_
    rw [show nI (12 * n) + 1 = nI (12 * n + 1) from nI_add (12 * n) 1]
    refine v_iload_n dX10_add_44 rfl 3 rfl ?_
    refine v_i2l dX10_add_45 rfl ?_
    refine v_last dX10_add_46 (by repeat (first | with_reducible assumption | (with_reducible refine sv_us.trans ?_; exact rfl) | with_reducible refine (sv_un (by omega)).trans ?_)) (vp_in_nI (by omega) (by omega)) ?_
    refine v_aload_n dX10_add_47 rfl 1 rfl ?_
    refine v_getf 0 (ci := 8) (C := RX10) (T := TX10) (N := 7) rfl iwX10_add_X10 (Nat.le_of_ble_eq_true rfl) (by decide +kernel) dX10_add_48 (by repeat (first | with_reducible assumption | (with_reducible refine sv_us.trans ?_; exact rfl) | with_reducible refine (sv_un (by omega)).trans ?_)) (by exact rfl) ?_
    refine v_iload dX10_add_51 0 rfl ?_
    refine v_iconst (v := 2) dX10_add_53 (by decide) ?_
    refine v_iadd dX10_add_54 ?_
    rw [show nI (12 * n) + 2 = nI (12 * n + 2) from nI_add (12 * n) 2]
    refine v_iload_n dX10_add_55 rfl 4 rfl ?_
    refine v_i2l dX10_add_56 rfl ?_
    refine v_last dX10_add_57 (by repeat (first | with_reducible assumption | (with_reducible refine sv_us.trans ?_; exact rfl) | with_reducible refine (sv_un (by omega)).trans ?_)) (vp_in_nI (by omega) (by omega)) ?_
    refine v_aload_n dX10_add_58 rfl 1 rfl ?_
    refine v_getf 0 (ci := 8) (C := RX10) (T := TX10) (N := 7) rfl iwX10_add_X10 (Nat.le_of_ble_eq_true rfl) (by decide +kernel) dX10_add_59 (by repeat (first | with_reducible assumption | (with_reducible refine sv_us.trans ?_; exact rfl) | with_reducible refine (sv_un (by omega)).trans ?_)) (by exact rfl) ?_
    refine v_iload dX10_add_62 0 rfl ?_
    refine v_iconst (v := 3) dX10_add_64 (by decide) ?_
    refine v_iadd dX10_add_65 ?_
    rw [show nI (12 * n) + 3 = nI (12 * n + 3) from nI_add (12 * n) 3]
    refine v_iload dX10_add_66 5 rfl ?_
    refine v_i2l dX10_add_68 rfl ?_
    refine v_last dX10_add_69 (by repeat (first | with_reducible assumption | (with_reducible refine sv_us.trans ?_; exact rfl) | with_reducible refine (sv_un (by omega)).trans ?_)) (vp_in_nI (by omega) (by omega)) ?_
    refine v_aload_n dX10_add_70 rfl 1 rfl ?_
    refine v_getf 0 (ci := 8) (C := RX10) (T := TX10) (N := 7) rfl iwX10_add_X10 (Nat.le_of_ble_eq_true rfl) (by decide +kernel) dX10_add_71 (by repeat (first | with_reducible assumption | (with_reducible refine sv_us.trans ?_; exact rfl) | with_reducible refine (sv_un (by omega)).trans ?_)) (by exact rfl) ?_
    refine v_iload dX10_add_74 0 rfl ?_
    refine v_iconst (v := 4) dX10_add_76 (by decide) ?_
    refine v_iadd dX10_add_77 ?_
    rw [show nI (12 * n) + 4 = nI (12 * n + 4) from nI_add (12 * n) 4]
    refine v_iload dX10_add_78 6 rfl ?_
    refine v_i2l dX10_add_80 rfl ?_
    refine v_last dX10_add_81 (by repeat (first | with_reducible assumption | (with_reducible refine sv_us.trans ?_; exact rfl) | with_reducible refine (sv_un (by omega)).trans ?_)) (vp_in_nI (by omega) (by omega)) ?_
    refine v_aload_n dX10_add_82 rfl 1 rfl ?_
    refine v_getf 0 (ci := 8) (C := RX10) (T := TX10) (N := 7) rfl iwX10_add_X10 (Nat.le_of_ble_eq_true rfl) (by decide +kernel) dX10_add_83 (by repeat (first | with_reducible assumption | (with_reducible refine sv_us.trans ?_; exact rfl) | with_reducible refine (sv_un (by omega)).trans ?_)) (by exact rfl) ?_
    refine v_iload dX10_add_86 0 rfl ?_
    refine v_iconst (v := 5) dX10_add_88 (by decide) ?_
    refine v_iadd dX10_add_89 ?_
    rw [show nI (12 * n) + 5 = nI (12 * n + 5) from nI_add (12 * n) 5]
    refine v_iload dX10_add_90 7 rfl ?_
    refine v_i2l dX10_add_92 rfl ?_
    refine v_last dX10_add_93 (by repeat (first | with_reducible assumption | (with_reducible refine sv_us.trans ?_; exact rfl) | with_reducible refine (sv_un (by omega)).trans ?_)) (vp_in_nI (by omega) (by omega)) ?_
    refine v_aload_n dX10_add_94 rfl 1 rfl ?_
    refine v_getf 0 (ci := 8) (C := RX10) (T := TX10) (N := 7) rfl iwX10_add_X10 (Nat.le_of_ble_eq_true rfl) (by decide +kernel) dX10_add_95 (by repeat (first | with_reducible assumption | (with_reducible refine sv_us.trans ?_; exact rfl) | with_reducible refine (sv_un (by omega)).trans ?_)) (by exact rfl) ?_
    refine v_iload dX10_add_98 0 rfl ?_
    refine v_bipush (v := 6) dX10_add_100 (by decide) ?_
    refine v_iadd dX10_add_102 ?_
    rw [show nI (12 * n) + 6 = nI (12 * n + 6) from nI_add (12 * n) 6]
    refine v_lload dX10_add_103 8 rfl ?_
    refine v_last dX10_add_105 (by repeat (first | with_reducible assumption | (with_reducible refine sv_us.trans ?_; exact rfl) | with_reducible refine (sv_un (by omega)).trans ?_)) (vp_in_nI (by omega) (by omega)) ?_
    refine v_aload_n dX10_add_106 rfl 1 rfl ?_
    refine v_getf 0 (ci := 8) (C := RX10) (T := TX10) (N := 7) rfl iwX10_add_X10 (Nat.le_of_ble_eq_true rfl) (by decide +kernel) dX10_add_107 (by repeat (first | with_reducible assumption | (with_reducible refine sv_us.trans ?_; exact rfl) | with_reducible refine (sv_un (by omega)).trans ?_)) (by exact rfl) ?_
    refine v_iload dX10_add_110 0 rfl ?_
    refine v_bipush (v := 7) dX10_add_112 (by decide) ?_
    refine v_iadd dX10_add_114 ?_
    rw [show nI (12 * n) + 7 = nI (12 * n + 7) from nI_add (12 * n) 7]
    refine v_aload_n dX10_add_115 rfl 1 rfl ?_
    refine v_getf 6 (ci := 8) (C := RX10) (T := TX10) (N := 7) rfl iwX10_add_X10 (Nat.le_of_ble_eq_true rfl) (by decide +kernel) dX10_add_116 (by repeat (first | with_reducible assumption | (with_reducible refine sv_us.trans ?_; exact rfl) | with_reducible refine (sv_un (by omega)).trans ?_)) (by exact rfl) ?_
    refine v_i2l dX10_add_119 rfl ?_
    refine v_last dX10_add_120 (by repeat (first | with_reducible assumption | (with_reducible refine sv_us.trans ?_; exact rfl) | with_reducible refine (sv_un (by omega)).trans ?_)) (vp_in_nI (by omega) (by omega)) ?_
    refine v_aload_n dX10_add_121 rfl 1 rfl ?_
    refine v_getf 0 (ci := 8) (C := RX10) (T := TX10) (N := 7) rfl iwX10_add_X10 (Nat.le_of_ble_eq_true rfl) (by decide +kernel) dX10_add_122 (by repeat (first | with_reducible assumption | (with_reducible refine sv_us.trans ?_; exact rfl) | with_reducible refine (sv_un (by omega)).trans ?_)) (by exact rfl) ?_
    refine v_iload dX10_add_125 0 rfl ?_
    refine v_iconst (v := 0) dX10_add_127 (by decide) ?_
    refine v_iadd dX10_add_128 ?_
    rw [show nI (12 * n) + 0 = nI (12 * n + 0) from nI_add (12 * n) 0]
    refine v_aload_n dX10_add_129 rfl 1 rfl ?_
    refine v_getf 0 (ci := 8) (C := RX10) (T := TX10) (N := 7) rfl iwX10_add_X10 (Nat.le_of_ble_eq_true rfl) (by decide +kernel) dX10_add_130 (by repeat (first | with_reducible assumption | (with_reducible refine sv_us.trans ?_; exact rfl) | with_reducible refine (sv_un (by omega)).trans ?_)) (by exact rfl) ?_
    refine v_iload dX10_add_133 0 rfl ?_
    refine v_bipush (v := 8) dX10_add_135 (by decide) ?_
    refine v_iadd dX10_add_137 ?_
    rw [show nI (12 * n) + 8 = nI (12 * n + 8) from nI_add (12 * n) 8]
    refine v_iconst (v := 4) dX10_add_138 (by decide) ?_
    refine v_copyJ (by decide +kernel) (by decide +kernel) (by decide +kernel) (by decide +kernel) dX10_add_139 (Nat.le_of_ble_eq_true rfl) (by decide +kernel) (by repeat (first | with_reducible assumption | (with_reducible refine sv_us.trans ?_; exact rfl) | with_reducible refine (sv_un (by omega)).trans ?_)) (by repeat (first | with_reducible assumption | (with_reducible refine sv_us.trans ?_; exact rfl) | with_reducible refine (sv_un (by omega)).trans ?_)) (nI_pos (by omega)) (nI_pos (by omega)) (by decide) (by rw [nI_clamp (by omega)]; show 12 * n + 0 + 4 ≤ 18000; omega) (by rw [nI_clamp (by omega)]; show 12 * n + 8 + 4 ≤ 18000; omega) ?_
    refine v_aload_n dX10_add_142 rfl 1 rfl ?_
    refine v_getf 2 (ci := 8) (C := RX10) (T := TX10) (N := 7) rfl iwX10_add_X10 (Nat.le_of_ble_eq_true rfl) (by decide +kernel) dX10_add_143 (by repeat (first | with_reducible assumption | (with_reducible refine sv_us.trans ?_; exact rfl) | with_reducible refine (sv_un (by omega)).trans ?_)) (by exact rfl) ?_
    refine v_aload_n dX10_add_146 rfl 1 rfl ?_
    refine v_getf 4 (ci := 8) (C := RX10) (T := TX10) (N := 7) rfl iwX10_add_X10 (Nat.le_of_ble_eq_true rfl) (by decide +kernel) dX10_add_147 (by repeat (first | with_reducible assumption | (with_reducible refine sv_us.trans ?_; exact rfl) | with_reducible refine (sv_un (by omega)).trans ?_)) (by exact rfl) ?_
    refine v_aload_n dX10_add_150 rfl 1 rfl ?_
    refine v_getf 1 (ci := 8) (C := RX10) (T := TX10) (N := 7) rfl iwX10_add_X10 (Nat.le_of_ble_eq_true rfl) (by decide +kernel) dX10_add_151 (by repeat (first | with_reducible assumption | (with_reducible refine sv_us.trans ?_; exact rfl) | with_reducible refine (sv_un (by omega)).trans ?_)) (by exact rfl) ?_
    rw [hs, hu]
    refine v_iast dX10_add_154 (by repeat (first | with_reducible assumption | (with_reducible refine sv_us.trans ?_; exact rfl) | with_reducible refine (sv_un (by omega)).trans ?_)) (vp_in_nI (by omega) (by omega)) ?_
    refine v_aload_n dX10_add_155 rfl 1 rfl ?_
    refine v_dup dX10_add_156 rfl ?_
    refine v_getf 4 (ci := 8) (C := RX10) (T := TX10) (N := 7) rfl iwX10_add_X10 (Nat.le_of_ble_eq_true rfl) (by decide +kernel) dX10_add_157 (by repeat (first | with_reducible assumption | (with_reducible refine sv_us.trans ?_; exact rfl) | with_reducible refine (sv_un (by omega)).trans ?_)) (by exact rfl) ?_
    refine v_iconst (v := 1) dX10_add_160 (by decide) ?_
    refine v_iadd dX10_add_161 ?_
    rw [hs, nI_1]
    refine v_putf 4 (fs' := [_, _, _, _, _, _, _]) (ci := 8) (C := RX10) (T := TX10) (N := 7) (ty := .int) rfl iwX10_add_X10 tyX10 tyX10_ok nmX10 (Nat.le_of_ble_eq_true rfl) (by decide +kernel) rfl rfl dX10_add_162 rfl rfl (by repeat (first | with_reducible assumption | (with_reducible refine sv_us.trans ?_; exact rfl) | with_reducible refine (sv_un (by omega)).trans ?_)) (Nat.le_of_ble_eq_true rfl) rfl ?_
    refine v_aload_n dX10_add_165 rfl 1 rfl ?_
    refine v_dup dX10_add_166 rfl ?_
    refine v_getf 1 (ci := 8) (C := RX10) (T := TX10) (N := 7) rfl iwX10_add_X10 (Nat.le_of_ble_eq_true rfl) (by decide +kernel) dX10_add_167 (by repeat (first | with_reducible assumption | (with_reducible refine sv_us.trans ?_; exact rfl) | with_reducible refine (sv_un (by omega)).trans ?_)) (by exact rfl) ?_
    refine v_iconst (v := 1) dX10_add_170 (by decide) ?_
    refine v_iadd dX10_add_171 ?_
    rw [hu, nI_1]
    refine v_putf 1 (fs' := [_, _, _, _, _, _, _]) (ci := 8) (C := RX10) (T := TX10) (N := 7) (ty := .int) rfl iwX10_add_X10 tyX10 tyX10_ok nmX10 (Nat.le_of_ble_eq_true rfl) (by decide +kernel) rfl rfl dX10_add_172 rfl rfl (by repeat (first | with_reducible assumption | (with_reducible refine sv_us.trans ?_; exact rfl) | with_reducible refine (sv_un (by omega)).trans ?_)) (Nat.le_of_ble_eq_true rfl) rfl ?_
    exact v_ret rfl dX10_add_175 (Nat.le_of_ble_eq_true rfl) (Nat.le_of_ble_eq_true rfl) (by
        have e0 : (nI (12 * n + 0)).toNatClampNeg = 12 * n + 0 := nI_clamp (by omega)
        have e1 : (nI (12 * n + 1)).toNatClampNeg = 12 * n + 1 := nI_clamp (by omega)
        have e2 : (nI (12 * n + 2)).toNatClampNeg = 12 * n + 2 := nI_clamp (by omega)
        have e3 : (nI (12 * n + 3)).toNatClampNeg = 12 * n + 3 := nI_clamp (by omega)
        have e4 : (nI (12 * n + 4)).toNatClampNeg = 12 * n + 4 := nI_clamp (by omega)
        have e5 : (nI (12 * n + 5)).toNatClampNeg = 12 * n + 5 := nI_clamp (by omega)
        have e6 : (nI (12 * n + 6)).toNatClampNeg = 12 * n + 6 := nI_clamp (by omega)
        have e7 : (nI (12 * n + 7)).toNatClampNeg = 12 * n + 7 := nI_clamp (by omega)
        have e8 : (nI (12 * n + 8)).toNatClampNeg = 12 * n + 8 := nI_clamp (by omega)
        rw [e0, e1, e2, e3, e4, e5, e6, e7, e8, show (4 : Int32).toNatClampNeg = 4 by decide, nI_clamp (n := n) (by omega)]
        refine ⟨rfl, rfl, ⟨_, _, ⟨g1, sv_us, (sv_un (by omega)).trans ((sv_un (by omega)).trans ((sv_un (by omega)).trans (sv_us))), (sv_un (by omega)).trans ((sv_un (by omega)).trans (sv_us)), (sv_un (by omega)).trans ((sv_un (by omega)).trans ((sv_un (by omega)).trans ((sv_un (by omega)).trans ((sv_un (by omega)).trans ((sv_un (by omega)).trans ((sv_un (by omega)).trans ((sv_un (by omega)).trans ((sv_un (by omega)).trans ((sv_un (by omega)).trans ((sv_un (by omega)).trans ((sv_un (by omega)).trans (g5))))))))))))⟩, fun i hi => ta_old hi, ta_row, fun k hk => if_neg (by omega), if_pos rfl⟩, fun w p => (sv_un (by omega)).trans ((sv_un (by omega)).trans ((sv_un (by omega)).trans ((sv_un (by omega)).trans ((sv_un (by omega)).trans ((sv_un (by omega)).trans ((sv_un (by omega)).trans ((sv_un (by omega)).trans ((sv_un (by omega)).trans ((sv_un (by omega)).trans ((sv_un (by omega)).trans ((sv_un (by omega)).trans (rfl))))))))))))⟩)
  · exact absurd (nI_lt (a := n) (b := 1500) hn (by decide)) (by rw [hu] at c_7; exact c_7)

theorem c_add (G : sv_G) (h : sv_h) (z t : Nat) (hm : Int32) (E : List (List Int64)) (H : tE G h t hm E) (x0 y0 x1 y1 a c : Int32) (m : Int64) : CT G mX10_add [.ref t, .int x0, .int y0, .int x1, .int y1, .int a, .int c, .long m] h z (fun v h1 z1 => v = none ∧ z1 = z ∧ tE G h1 t hm (E ++ [rw_ x0 y0 x1 y1 a c m hm]) ∧ ∀ w, ¬ (t ≤ w ∧ w < t + 4) → h1 w = h w) := by
  obtain ⟨x, ro, od, st, us, sz, ov, T, H⟩ := H
  rcases H with ⟨q1, q2, q3, q4, q5⟩ | ⟨q1, q2, q3⟩
  · by_cases e : E.length = 1500
    · refine (c_add1 G h z t x ro od st us sz ov hm T (by rw [q2, e]) x0 y0 x1 y1 a c m).mono (fun v h1 z1 _ hq => ?_)
      obtain ⟨r1, r2, r3, r4⟩ := hq
      exact ⟨r1, r2, ⟨x, ro, od, st, us, sz, 1, r3, Or.inr ⟨by rw [List.length_append]; simp; omega, by rw [q2, e], rfl⟩⟩, r4⟩
    · refine (c_add0 G h z t x ro od st us sz ov hm T E.length (by omega) q2 q3 x0 y0 x1 y1 a c m).mono (fun v h1 z1 _ hq => ?_)
      obtain ⟨r1, r2, ⟨ro1, od1, r3, r4, r5, r6, r7⟩, r8⟩ := hq
      have hl : (E ++ [rw_ x0 y0 x1 y1 a c m hm]).length = E.length + 1 := by rw [List.length_append]; rfl
      refine ⟨r1, r2, ⟨x, ro1, od1, st, _, _, ov, r3, Or.inl ⟨by omega, by rw [hl], by rw [hl], q4, fun k hk => ?_⟩⟩, r8⟩
      by_cases e2 : k = E.length
      · rw [e2, gd_n]
        exact ⟨r7, r5⟩
      · rw [gd_l _ _ _ (show k < E.length by omega)]
        refine ⟨(r6 k (by omega)).trans (q5 k (by omega)).1, fun j hj => (r4 _ (by omega)).trans ((q5 k (by omega)).2 j hj)⟩
  · refine (c_add1 G h z t x ro od st us sz ov hm T q2 x0 y0 x1 y1 a c m).mono (fun v h1 z1 _ hq => ?_)
    obtain ⟨r1, r2, r3, r4⟩ := hq
    exact ⟨r1, r2, ⟨x, ro, od, st, us, sz, 1, r3, Or.inr ⟨by rw [List.length_append]; omega, q2, rfl⟩⟩, r4⟩
