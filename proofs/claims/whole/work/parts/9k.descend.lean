theorem iwX8_descend_X3 : ∀ w ∈ wsX30, w ∈ wsX8_descend := by decide +kernel
theorem iwX8_descend_X5 : ∀ w ∈ wsX50, w ∈ wsX8_descend := by decide +kernel
theorem iwX8_descend_X7 : ∀ w ∈ wsX70, w ∈ wsX8_descend := by decide +kernel
theorem iwX8_descend_X8 : ∀ w ∈ wsX80, w ∈ wsX8_descend := by decide +kernel
set_option maxRecDepth 20000 in
theorem ggX8_descend_X7_looksAt : GoodIn wsX8_descend wsX7_looksAt := goodIn_r _ [20, 21, 22, 23, 24, 92, 93, 94, 95, 96, 97, 98, 99] (by decide +kernel) (by decide +kernel)
set_option maxRecDepth 20000 in
theorem gX8_descend_X7_looksAt : GoodIn wsX8_descend (wsV RX8 106 RX7 yX7_looksAt wsX7_looksAt) := goodIn_app (goodIn_of _ (by decide +kernel)) ggX8_descend_X7_looksAt
set_option maxRecDepth 20000 in
theorem ggX8_descend_X8_put : GoodIn wsX8_descend wsX8_put := goodIn_r _ [29, 30, 31, 32, 33, 34, 35, 36, 37, 38, 39, 40, 41, 42, 58, 59, 60, 61, 62, 63, 64, 65, 66, 67, 68, 69, 70, 71, 100, 101, 102, 103] (by decide +kernel) (by decide +kernel)
set_option maxRecDepth 20000 in
theorem gX8_descend_X8_put : GoodIn wsX8_descend (wsV RX8 110 RX8 yX8_put wsX8_put) := goodIn_app (goodIn_of _ (by decide +kernel)) ggX8_descend_X8_put
set_option maxRecDepth 20000 in
theorem ggX8_descend_X4_join : GoodIn wsX8_descend wsX4_join := goodIn_r _ [46, 39, 40, 41, 42, 47, 48, 49, 37, 50, 51, 52, 53, 54, 100, 101, 102, 103] (by decide +kernel) (by decide +kernel)
set_option maxRecDepth 20000 in
theorem gX8_descend_X4_join : GoodIn wsX8_descend (wsV RX8 135 RX4 yX4_join wsX4_join) := goodIn_app (goodIn_of _ (by decide +kernel)) ggX8_descend_X4_join
set_option maxRecDepth 20000 in
theorem ggX8_descend_X8_descend : GoodIn wsX8_descend wsX8_descend := goodIn_r _ [0, 1, 2, 3, 4, 5, 6, 7, 8, 9, 10, 11, 12, 13, 14, 15, 16, 17, 18, 19, 20, 21, 22, 23, 24, 25, 26, 27, 28, 29, 30, 31, 32, 33, 34, 35, 36, 37, 38, 39, 40, 41, 42, 43, 44, 45, 46, 47, 48, 49, 50, 51, 52, 53, 54, 55, 56, 57, 58, 59, 60, 61, 62, 63, 64, 65, 66, 67, 68, 69, 70, 71, 72, 73, 74, 75, 76, 77, 78, 79, 80, 81, 82, 83, 84, 85, 86, 87, 88, 89, 90, 91, 92, 93, 94, 95, 96, 97, 98, 99, 100, 101, 102, 103] (by decide +kernel) (by decide +kernel)
set_option maxRecDepth 20000 in
theorem gX8_descend_X8_descend : GoodIn wsX8_descend (wsV RX8 60 RX8 yX8_descend wsX8_descend) := goodIn_app (goodIn_of _ (by decide +kernel)) ggX8_descend_X8_descend
theorem dX8_descend_0 : decode cX8_descend 0 = .ok (.iconst 0, 1) := by decide +kernel
theorem dX8_descend_1 : decode cX8_descend 1 = .ok (.istore 5, 2) := by decide +kernel
theorem dX8_descend_3 : decode cX8_descend 3 = .ok (.iload 5, 2) := by decide +kernel
theorem dX8_descend_5 : decode cX8_descend 5 = .ok (.aload_n 0, 1) := by decide +kernel
theorem dX8_descend_6 : decode cX8_descend 6 = .ok (.getfield 51, 3) := by decide +kernel
theorem dX8_descend_9 : decode cX8_descend 9 = .ok (.getfield 91, 3) := by decide +kernel
theorem dX8_descend_12 : decode cX8_descend 12 = .ok (.if_icmp .ge 64, 3) := by decide +kernel
theorem dX8_descend_15 : decode cX8_descend 15 = .ok (.aload_n 0, 1) := by decide +kernel
theorem dX8_descend_16 : decode cX8_descend 16 = .ok (.getfield 51, 3) := by decide +kernel
theorem dX8_descend_19 : decode cX8_descend 19 = .ok (.getfield 85, 3) := by decide +kernel
theorem dX8_descend_22 : decode cX8_descend 22 = .ok (.iload 5, 2) := by decide +kernel
theorem dX8_descend_24 : decode cX8_descend 24 = .ok (.aaload, 1) := by decide +kernel
theorem dX8_descend_25 : decode cX8_descend 25 = .ok (.astore 6, 2) := by decide +kernel
theorem dX8_descend_27 : decode cX8_descend 27 = .ok (.aload 6, 2) := by decide +kernel
theorem dX8_descend_29 : decode cX8_descend 29 = .ok (.getfield 94, 3) := by decide +kernel
theorem dX8_descend_32 : decode cX8_descend 32 = .ok (.iload_n 1, 1) := by decide +kernel
theorem dX8_descend_33 : decode cX8_descend 33 = .ok (.if_icmp .ne 37, 3) := by decide +kernel
theorem dX8_descend_36 : decode cX8_descend 36 = .ok (.aload 6, 2) := by decide +kernel
theorem dX8_descend_38 : decode cX8_descend 38 = .ok (.getfield 99, 3) := by decide +kernel
theorem dX8_descend_41 : decode cX8_descend 41 = .ok (.ifCond .eq 29, 3) := by decide +kernel
theorem dX8_descend_44 : decode cX8_descend 44 = .ok (.aload 4, 2) := by decide +kernel
theorem dX8_descend_46 : decode cX8_descend 46 = .ok (.aload 6, 2) := by decide +kernel
theorem dX8_descend_48 : decode cX8_descend 48 = .ok (.getfield 103, 3) := by decide +kernel
theorem dX8_descend_51 : decode cX8_descend 51 = .ok (.invokevirtual 106, 3) := by decide +kernel
theorem dX8_descend_54 : decode cX8_descend 54 = .ok (.ifCond .eq 16, 3) := by decide +kernel
theorem dX8_descend_57 : decode cX8_descend 57 = .ok (.aload_n 0, 1) := by decide +kernel
theorem dX8_descend_58 : decode cX8_descend 58 = .ok (.iload 5, 2) := by decide +kernel
theorem dX8_descend_60 : decode cX8_descend 60 = .ok (.iload_n 3, 1) := by decide +kernel
theorem dX8_descend_61 : decode cX8_descend 61 = .ok (.aload_n 0, 1) := by decide +kernel
theorem dX8_descend_62 : decode cX8_descend 62 = .ok (.getfield 11, 3) := by decide +kernel
theorem dX8_descend_65 : decode cX8_descend 65 = .ok (.iload_n 2, 1) := by decide +kernel
theorem dX8_descend_66 : decode cX8_descend 66 = .ok (.aaload, 1) := by decide +kernel
theorem dX8_descend_67 : decode cX8_descend 67 = .ok (.invokevirtual 110, 3) := by decide +kernel
theorem dX8_descend_70 : decode cX8_descend 70 = .ok (.iinc 5 1, 3) := by decide +kernel
theorem dX8_descend_73 : decode cX8_descend 73 = .ok (.goto (-70), 3) := by decide +kernel
theorem dX8_descend_76 : decode cX8_descend 76 = .ok (.aload 4, 2) := by decide +kernel
theorem dX8_descend_78 : decode cX8_descend 78 = .ok (.getfield 68, 3) := by decide +kernel
theorem dX8_descend_81 : decode cX8_descend 81 = .ok (.getfield 114, 3) := by decide +kernel
theorem dX8_descend_84 : decode cX8_descend 84 = .ok (.iconst 1, 1) := by decide +kernel
theorem dX8_descend_85 : decode cX8_descend 85 = .ok (.if_icmp .ne 18, 3) := by decide +kernel
theorem dX8_descend_88 : decode cX8_descend 88 = .ok (.aload 4, 2) := by decide +kernel
theorem dX8_descend_90 : decode cX8_descend 90 = .ok (.getfield 68, 3) := by decide +kernel
theorem dX8_descend_93 : decode cX8_descend 93 = .ok (.getfield 117, 3) := by decide +kernel
theorem dX8_descend_96 : decode cX8_descend 96 = .ok (.ifCond .ne 7, 3) := by decide +kernel
theorem dX8_descend_99 : decode cX8_descend 99 = .ok (.iconst 1, 1) := by decide +kernel
theorem dX8_descend_100 : decode cX8_descend 100 = .ok (.goto 4, 3) := by decide +kernel
theorem dX8_descend_103 : decode cX8_descend 103 = .ok (.iconst 0, 1) := by decide +kernel
theorem dX8_descend_104 : decode cX8_descend 104 = .ok (.istore 5, 2) := by decide +kernel
theorem dX8_descend_106 : decode cX8_descend 106 = .ok (.iload 5, 2) := by decide +kernel
theorem dX8_descend_108 : decode cX8_descend 108 = .ok (.ifCond .ne 14, 3) := by decide +kernel
theorem dX8_descend_111 : decode cX8_descend 111 = .ok (.iload_n 2, 1) := by decide +kernel
theorem dX8_descend_112 : decode cX8_descend 112 = .ok (.iconst 1, 1) := by decide +kernel
theorem dX8_descend_113 : decode cX8_descend 113 = .ok (.iadd, 1) := by decide +kernel
theorem dX8_descend_114 : decode cX8_descend 114 = .ok (.aload_n 0, 1) := by decide +kernel
theorem dX8_descend_115 : decode cX8_descend 115 = .ok (.getfield 11, 3) := by decide +kernel
theorem dX8_descend_118 : decode cX8_descend 118 = .ok (.arraylength, 1) := by decide +kernel
theorem dX8_descend_119 : decode cX8_descend 119 = .ok (.if_icmp .lt 4, 3) := by decide +kernel
theorem dX8_descend_122 : decode cX8_descend 122 = .ok (.return_, 1) := by decide +kernel
theorem dX8_descend_123 : decode cX8_descend 123 = .ok (.iconst 0, 1) := by decide +kernel
theorem dX8_descend_124 : decode cX8_descend 124 = .ok (.istore 6, 2) := by decide +kernel
theorem dX8_descend_126 : decode cX8_descend 126 = .ok (.iload 6, 2) := by decide +kernel
theorem dX8_descend_128 : decode cX8_descend 128 = .ok (.aload_n 0, 1) := by decide +kernel
theorem dX8_descend_129 : decode cX8_descend 129 = .ok (.getfield 51, 3) := by decide +kernel
theorem dX8_descend_132 : decode cX8_descend 132 = .ok (.getfield 120, 3) := by decide +kernel
theorem dX8_descend_135 : decode cX8_descend 135 = .ok (.if_icmp .ge 96, 3) := by decide +kernel
theorem dX8_descend_138 : decode cX8_descend 138 = .ok (.aload_n 0, 1) := by decide +kernel
theorem dX8_descend_139 : decode cX8_descend 139 = .ok (.getfield 51, 3) := by decide +kernel
theorem dX8_descend_142 : decode cX8_descend 142 = .ok (.getfield 123, 3) := by decide +kernel
theorem dX8_descend_145 : decode cX8_descend 145 = .ok (.iload 6, 2) := by decide +kernel
theorem dX8_descend_147 : decode cX8_descend 147 = .ok (.iaload, 1) := by decide +kernel
theorem dX8_descend_148 : decode cX8_descend 148 = .ok (.istore 7, 2) := by decide +kernel
theorem dX8_descend_150 : decode cX8_descend 150 = .ok (.aload_n 0, 1) := by decide +kernel
theorem dX8_descend_151 : decode cX8_descend 151 = .ok (.getfield 51, 3) := by decide +kernel
theorem dX8_descend_154 : decode cX8_descend 154 = .ok (.getfield 126, 3) := by decide +kernel
theorem dX8_descend_157 : decode cX8_descend 157 = .ok (.iload 6, 2) := by decide +kernel
theorem dX8_descend_159 : decode cX8_descend 159 = .ok (.iaload, 1) := by decide +kernel
theorem dX8_descend_160 : decode cX8_descend 160 = .ok (.iload_n 1, 1) := by decide +kernel
theorem dX8_descend_161 : decode cX8_descend 161 = .ok (.if_icmp .ne 64, 3) := by decide +kernel
theorem dX8_descend_164 : decode cX8_descend 164 = .ok (.aload_n 0, 1) := by decide +kernel
theorem dX8_descend_165 : decode cX8_descend 165 = .ok (.getfield 51, 3) := by decide +kernel
theorem dX8_descend_168 : decode cX8_descend 168 = .ok (.getfield 129, 3) := by decide +kernel
theorem dX8_descend_171 : decode cX8_descend 171 = .ok (.iload 7, 2) := by decide +kernel
theorem dX8_descend_173 : decode cX8_descend 173 = .ok (.iaload, 1) := by decide +kernel
theorem dX8_descend_174 : decode cX8_descend 174 = .ok (.ifCond .le 51, 3) := by decide +kernel
theorem dX8_descend_177 : decode cX8_descend 177 = .ok (.aload_n 0, 1) := by decide +kernel
theorem dX8_descend_178 : decode cX8_descend 178 = .ok (.getfield 11, 3) := by decide +kernel
theorem dX8_descend_181 : decode cX8_descend 181 = .ok (.iload_n 2, 1) := by decide +kernel
theorem dX8_descend_182 : decode cX8_descend 182 = .ok (.iconst 1, 1) := by decide +kernel
theorem dX8_descend_183 : decode cX8_descend 183 = .ok (.iadd, 1) := by decide +kernel
theorem dX8_descend_184 : decode cX8_descend 184 = .ok (.aaload, 1) := by decide +kernel
theorem dX8_descend_185 : decode cX8_descend 185 = .ok (.aload_n 0, 1) := by decide +kernel
theorem dX8_descend_186 : decode cX8_descend 186 = .ok (.getfield 11, 3) := by decide +kernel
theorem dX8_descend_189 : decode cX8_descend 189 = .ok (.iload_n 2, 1) := by decide +kernel
theorem dX8_descend_190 : decode cX8_descend 190 = .ok (.aaload, 1) := by decide +kernel
theorem dX8_descend_191 : decode cX8_descend 191 = .ok (.aload_n 0, 1) := by decide +kernel
theorem dX8_descend_192 : decode cX8_descend 192 = .ok (.getfield 51, 3) := by decide +kernel
theorem dX8_descend_195 : decode cX8_descend 195 = .ok (.getfield 132, 3) := by decide +kernel
theorem dX8_descend_198 : decode cX8_descend 198 = .ok (.iload 6, 2) := by decide +kernel
theorem dX8_descend_200 : decode cX8_descend 200 = .ok (.aaload, 1) := by decide +kernel
theorem dX8_descend_201 : decode cX8_descend 201 = .ok (.invokevirtual 135, 3) := by decide +kernel
theorem dX8_descend_204 : decode cX8_descend 204 = .ok (.aload_n 0, 1) := by decide +kernel
theorem dX8_descend_205 : decode cX8_descend 205 = .ok (.iload 7, 2) := by decide +kernel
theorem dX8_descend_207 : decode cX8_descend 207 = .ok (.iload_n 2, 1) := by decide +kernel
theorem dX8_descend_208 : decode cX8_descend 208 = .ok (.iconst 1, 1) := by decide +kernel
theorem dX8_descend_209 : decode cX8_descend 209 = .ok (.iadd, 1) := by decide +kernel
theorem dX8_descend_210 : decode cX8_descend 210 = .ok (.iload_n 2, 1) := by decide +kernel
theorem dX8_descend_211 : decode cX8_descend 211 = .ok (.ifCond .ne 8, 3) := by decide +kernel
theorem dX8_descend_214 : decode cX8_descend 214 = .ok (.iload 6, 2) := by decide +kernel
theorem dX8_descend_216 : decode cX8_descend 216 = .ok (.goto 4, 3) := by decide +kernel
theorem dX8_descend_219 : decode cX8_descend 219 = .ok (.iload_n 3, 1) := by decide +kernel
theorem dX8_descend_220 : decode cX8_descend 220 = .ok (.aload 4, 2) := by decide +kernel
theorem dX8_descend_222 : decode cX8_descend 222 = .ok (.invokevirtual 60, 3) := by decide +kernel
theorem dX8_descend_225 : decode cX8_descend 225 = .ok (.iinc 6 1, 3) := by decide +kernel
theorem dX8_descend_228 : decode cX8_descend 228 = .ok (.goto (-102), 3) := by decide +kernel
theorem dX8_descend_231 : decode cX8_descend 231 = .ok (.return_, 1) := by decide +kernel

abbrev mDs (f : Nat) : sv_M := (cX8_descend, 8, yX8_descend, wsX8_descend, none, { frames := f + 3, cells := 0, slots := 0, locals := 27 * f + 100 }, [])
theorem brn_s (w : List Nat) (i : Nat) : brn (w ++ [i]) = (if w = [] then nI i else brn w) := by
  cases w with
  | nil => rfl
  | cons a w => rfl
theorem sc_.cut {G : sv_G} {b : Nat} {mp : Nat → mvT} {h0 h : sv_h} {w : List Nat} {i : Nat} {S : List (List Nat × Nat)} (H : sc_ G b mp h0 h (w ++ [i]) S) : sc_ G b mp h0 h w S := by
  obtain ⟨s0, s1, s2, s4, s6, s8, sA, sB, sC, sD, sF⟩ := H
  refine ⟨s0, s1, s2, s4, s6, s8, sA, fun j hj => ?_, sC, sD, sF⟩
  have := sB j (by rw [List.length_append]; omega)
  rwa [List.take_append_of_le_length hj] at this
theorem sc_.ext {G : sv_G} {b : Nat} {mp : Nat → mvT} {h0 h h1 : sv_h} {w : List Nat} {i : Nat} {S : List (List Nat × Nat)} (H : sc_ G b mp h0 h w S) (hw : w.length + 1 < 16) (k1 : h1 (b + 48 + (w.length + 1)) = mvC (mvJ (mvW mp w) (mp i))) (k2 : ∀ a, a ≠ b + 48 + (w.length + 1) → h1 a = h a) : sc_ G b mp h0 h1 (w ++ [i]) S := by
  obtain ⟨s0, s1, ⟨fs, s2, s3⟩, ⟨fb, s4, s5⟩, ⟨fp, s6, s7⟩, ⟨fl, s8, s9⟩, sA, sB, sC, sD, sF⟩ := H
  refine ⟨s0, (k2 _ (by omega)).trans s1, ⟨fs, (k2 _ (by omega)).trans s2, s3⟩, ⟨fb, (k2 _ (by omega)).trans s4, s5⟩, ⟨fp, (k2 _ (by omega)).trans s6, s7⟩, ⟨fl, (k2 _ (by omega)).trans s8, s9⟩, fun j hj => ?_, fun j hj => ?_, fun j hj => ?_, fun j hj => (k2 _ (by omega)).trans (sD j hj), fun a p1 p2 => (k2 _ (by omega)).trans (sF a p1 p2)⟩
  · by_cases e : j = w.length + 1
    · rw [e]; exact ⟨_, _, _, _, k1⟩
    · obtain ⟨x0, x1, x2, x3, hx⟩ := sA j hj
      exact ⟨x0, x1, x2, x3, (k2 _ (by omega)).trans hx⟩
  · rw [List.length_append] at hj
    have hj2 : j ≤ w.length + 1 := hj
    by_cases e : j = w.length + 1
    · rw [e, List.take_of_length_le (by rw [List.length_append]; exact Nat.le_refl _), mvW_s]
      exact k1
    · rw [List.take_append_of_le_length (by omega)]
      exact (k2 _ (by omega)).trans (sB j (by omega))
  · obtain ⟨x0, x1, x2, x3, hx⟩ := sC j hj
    exact ⟨x0, x1, x2, x3, (k2 _ (by omega)).trans hx⟩
/-- which polygons of cell c a rule looks at -/
def dQ (R : Nat → Bool) (hm : Nat → Nat) (ly : Nat → Int32) (kd : Nat) (l1 l2 : Int32) (c p : Nat) : Bool := R p && decide (hm p = c) && lk kd l1 l2 (ly p)
theorem dQ_iff {R : Nat → Bool} {hm : Nat → Nat} {ly : Nat → Int32} {kd : Nat} {l1 l2 : Int32} {c p : Nat} : dQ R hm ly kd l1 l2 c p = true ↔ (R p = true ∧ hm p = c ∧ lk kd l1 l2 (ly p) = true) := by
  unfold dQ
  rw [Bool.and_eq_true, Bool.and_eq_true, decide_eq_true_iff, and_assoc]
/-- those of the cell itself -/
def dO (np : Nat) (Q : Nat → Nat → Bool) (c : Nat) (w : List Nat) : List (List Nat × Nat) := ((List.range np).filter (Q c)).map (fun p => (w, p))
theorem dO_p {i c : Nat} {Q : Nat → Nat → Bool} {w : List Nat} (h : Q c i = true) : dO (i + 1) Q c w = dO i Q c w ++ [(w, i)] := by
  unfold dO
  rw [List.range_succ, List.filter_append, List.filter_cons_of_pos h, List.map_append]; rfl
theorem dO_n {i c : Nat} {Q : Nat → Nat → Bool} {w : List Nat} (h : ¬ Q c i = true) : dO (i + 1) Q c w = dO i Q c w := by
  unfold dO
  rw [List.range_succ, List.filter_append, List.filter_cons_of_neg h, List.map_append]
  exact List.append_nil _
def dP (pl : Nat) (F : Nat → List (List Nat × Nat)) : List (List Nat × Nat) := (List.range pl).flatMap F
theorem dP_s (i : Nat) (F : Nat → List (List Nat × Nat)) : dP (i + 1) F = dP i F ++ F i := by
  unfold dP
  rw [List.range_succ, List.flatMap_append]
  simp only [List.flatMap_cons, List.flatMap_nil, List.append_nil]
theorem dP_le {F : Nat → List (List Nat × Nat)} {i j : Nat} (h : i ≤ j) : (dP i F).length ≤ (dP j F).length := by
  obtain ⟨k, rfl⟩ := Nat.exists_eq_add_of_le h
  induction k with
  | zero => exact Nat.le_refl _
  | succ k ih =>
    have := ih (Nat.le_add_right i k)
    rw [show i + (k + 1) = (i + k) + 1 by omega, dP_s, List.length_append]
    omega
theorem dO_le {Q : Nat → Nat → Bool} {c : Nat} {w : List Nat} {i j : Nat} (h : i ≤ j) : (dO i Q c w).length ≤ (dO j Q c w).length := by
  obtain ⟨k, rfl⟩ := Nat.exists_eq_add_of_le h
  induction k with
  | zero => exact Nat.le_refl _
  | succ k ih =>
    have := ih (Nat.le_add_right i k)
    rw [show i + (k + 1) = (i + k) + 1 by omega]
    by_cases e : Q c (i + k) = true
    · rw [dO_p e, List.length_append]; omega
    · rw [dO_n e]; exact this
set_option maxHeartbeats 4000000 in
set_option maxRecDepth 100000 in
theorem l_own (G : sv_G) (Qr : Option Value → sv_h → Nat → Prop) (h0 : sv_h) (z b : Nat) (k : Int32) (nc np pl : Nat) (R : Nat → Bool) (hm p3 p4 pa ma sz : Nat → Nat) (ly vo ar : Nat → Int32) (mp : Nat → mvT) (N : Nat → Nat) (X : sx_ G h0 b k nc np pl R hm p3 p4 pa ma sz ly vo ar mp N) (q : Nat) (hqa : q < b + 35 ∨ b + 164 ≤ q) (n0 : Int64) (kd : Nat) (hkd : kd < 11) (l1 l2 x3 x4 x5 x6 : Int32) (hru : h0 q = some (.inr (5, [.long n0, .ref (G.2.2.2.2.1 kd), .int l1, .int l2, .int x3, .int x4, .int x5, .int x6]))) (f : Nat) (w : List Nat) (hw : w.length < 16) (c : Nat) (hc : c < nc) (S : List (List Nat × Nat)) (hS : S.length + (dO np (dQ R hm ly kd l1 l2) c w).length ≤ 100) (hk : ∀ h1, sc_ G b mp h0 h1 w (S ++ dO np (dQ R hm ly kd l1 l2) c w) → V G (mDs f) (sv_MQ G (mDs f) Qr) 76 [(4, .ref q), (3, .int (brn w)), (2, .int (nI w.length)), (1, .int (nI c)), (0, .ref (b + 35))] [] h1 z 0 0) : ∀ (e i : Nat) (h : sv_h), i + e = np → sc_ G b mp h0 h w (S ++ dO i (dQ R hm ly kd l1 l2) c w) → V G (mDs f) (sv_MQ G (mDs f) Qr) 3 [(5, .int (nI i)), (4, .ref q), (3, .int (brn w)), (2, .int (nI w.length)), (1, .int (nI c)), (0, .ref (b + 35))] [] h z 0 0 := by
  intro e
  induction e with
  | zero =>
    intro i h hie H
    obtain ⟨s0, s1, ⟨fs, s2, s3⟩, ⟨fb, s4, s5⟩, ⟨fp, s6, s7⟩, ⟨fl, s8, s9⟩, sA, sB, sC, sD, sF⟩ := id H
    obtain ⟨g1, ⟨f2, g2, g2a⟩, ⟨f3, g3, g3a⟩, ⟨f4, g4, g4a⟩, ⟨f5, g5, g5a⟩, ⟨f6, g6, g6a⟩, gp, gm, gn, gnp, gpl⟩ := id X
    have r1 := (sF (b + 1) (by omega) (by omega)).trans g1
    have r2 : ab_Q G h (b + 2) 4 64 f2 := (sF (b + 2) (by omega) (by omega)).trans g2
    have r3 : ab_I G h (b + 3) 32 f3 := (sF (b + 3) (by omega) (by omega)).trans g3
    have r4 : ab_I G h (b + 4) 32 f4 := (sF (b + 4) (by omega) (by omega)).trans g4
    have r5 : ab_Q G h (b + 5) 3 32 f5 := (sF (b + 5) (by omega) (by omega)).trans g5
    have r6 : ab_I G h (b + 6) 16 f6 := (sF (b + 6) (by omega) (by omega)).trans g6
    have rq := (sF q (by omega) (by omega)).trans hru
    refine v_iload dX8_descend_3 0 rfl ?_
    refine v_aload_n dX8_descend_5 rfl 5 rfl ?_
    refine v_getf 0 (ci := 6) (C := RX8) (T := TX8) (N := 14) rfl iwX8_descend_X8 (Nat.le_of_ble_eq_true rfl) (by first | decide +kernel | (change Cond.fieldLink RX8 _ _ _ _ ∈ wsX8_descend; decide +kernel)) dX8_descend_6 (by first | with_reducible assumption) rfl ?_
    refine v_getf 3 (ci := 1) (C := RX3) (T := TX3) (N := 10) rfl iwX8_descend_X3 (Nat.le_of_ble_eq_true rfl) (by first | decide +kernel | (change Cond.fieldLink RX8 _ _ _ _ ∈ wsX8_descend; decide +kernel)) dX8_descend_9 (by first | with_reducible assumption) rfl ?_
    refine v_icmp_ge (tgt := 76) dX8_descend_12 (by decide) (fun c_12 => ?_) (fun c_12 => ?_)
    · refine v_sub (L' := [(4, _), (3, _), (2, _), (1, _), (0, _)]) [1, 2, 3, 4, 5] rfl ?_
      have e9 : i = np := by omega
      rw [e9] at H
      exact hk h H
    · exact absurd (nI_le (show np ≤ i by omega) (by omega)) c_12
  | succ e ih =>
    intro i h hie H
    obtain ⟨s0, s1, ⟨fs, s2, s3⟩, ⟨fb, s4, s5⟩, ⟨fp, s6, s7⟩, ⟨fl, s8, s9⟩, sA, sB, sC, sD, sF⟩ := id H
    obtain ⟨g1, ⟨f2, g2, g2a⟩, ⟨f3, g3, g3a⟩, ⟨f4, g4, g4a⟩, ⟨f5, g5, g5a⟩, ⟨f6, g6, g6a⟩, gp, gm, gn, gnp, gpl⟩ := id X
    have r1 := (sF (b + 1) (by omega) (by omega)).trans g1
    have r2 : ab_Q G h (b + 2) 4 64 f2 := (sF (b + 2) (by omega) (by omega)).trans g2
    have r3 : ab_I G h (b + 3) 32 f3 := (sF (b + 3) (by omega) (by omega)).trans g3
    have r4 : ab_I G h (b + 4) 32 f4 := (sF (b + 4) (by omega) (by omega)).trans g4
    have r5 : ab_Q G h (b + 5) 3 32 f5 := (sF (b + 5) (by omega) (by omega)).trans g5
    have r6 : ab_I G h (b + 6) 16 f6 := (sF (b + 6) (by omega) (by omega)).trans g6
    have rq := (sF q (by omega) (by omega)).trans hru
    obtain ⟨rp0, rp1, rp2, rp3⟩ := gp i (by omega)
    have rp := (sF (pa i) (by omega) (by omega)).trans rp0
    have hlt : ∀ {m : Nat}, (dO i (dQ R hm ly kd l1 l2) c w).length + m ≤ (dO np (dQ R hm ly kd l1 l2) c w).length → S.length + (dO i (dQ R hm ly kd l1 l2) c w).length + m ≤ 100 := fun h9 => by omega
    refine v_iload dX8_descend_3 0 rfl ?_
    refine v_aload_n dX8_descend_5 rfl 5 rfl ?_
    refine v_getf 0 (ci := 6) (C := RX8) (T := TX8) (N := 14) rfl iwX8_descend_X8 (Nat.le_of_ble_eq_true rfl) (by first | decide +kernel | (change Cond.fieldLink RX8 _ _ _ _ ∈ wsX8_descend; decide +kernel)) dX8_descend_6 (by first | with_reducible assumption) rfl ?_
    refine v_getf 3 (ci := 1) (C := RX3) (T := TX3) (N := 10) rfl iwX8_descend_X3 (Nat.le_of_ble_eq_true rfl) (by first | decide +kernel | (change Cond.fieldLink RX8 _ _ _ _ ∈ wsX8_descend; decide +kernel)) dX8_descend_9 (by first | with_reducible assumption) rfl ?_
    refine v_icmp_ge (tgt := 76) dX8_descend_12 (by decide) (fun c_12 => ?_) (fun c_12 => ?_)
    · exact absurd c_12 (nI_ge (show i < np by omega) (by omega))
    · refine v_aload_n dX8_descend_15 rfl 5 rfl ?_
      refine v_getf 0 (ci := 6) (C := RX8) (T := TX8) (N := 14) rfl iwX8_descend_X8 (Nat.le_of_ble_eq_true rfl) (by first | decide +kernel | (change Cond.fieldLink RX8 _ _ _ _ ∈ wsX8_descend; decide +kernel)) dX8_descend_16 (by first | with_reducible assumption) rfl ?_
      refine v_getf 2 (ci := 1) (C := RX3) (T := TX3) (N := 10) rfl iwX8_descend_X3 (Nat.le_of_ble_eq_true rfl) (by first | decide +kernel | (change Cond.fieldLink RX8 _ _ _ _ ∈ wsX8_descend; decide +kernel)) dX8_descend_19 (by first | with_reducible assumption) rfl ?_
      refine v_iload dX8_descend_22 0 rfl ?_
      refine v_aaldS (t := 4) (q := pa i) dX8_descend_24 (fun _ => rfl) (by first | with_reducible assumption) (vp_in_nI (by omega) (by omega)) (by rw [nI_clamp (by omega)]; exact g2a i (by omega)) ?_
      refine v_astore (L' := [(6, _), (5, _), (4, _), (3, _), (2, _), (1, _), (0, _)]) dX8_descend_25 (Nat.le_of_ble_eq_true rfl) rfl ?_
      refine v_aload dX8_descend_27 0 rfl ?_
      refine v_getf 0 (ci := 3) (C := RX5) (T := TX5) (N := 10) rfl iwX8_descend_X5 (Nat.le_of_ble_eq_true rfl) (by first | decide +kernel | (change Cond.fieldLink RX8 _ _ _ _ ∈ wsX8_descend; decide +kernel)) dX8_descend_29 (by first | with_reducible assumption) rfl ?_
      refine v_iload_n dX8_descend_32 rfl 5 rfl ?_
      refine v_icmp_ne (tgt := 70) dX8_descend_33 (by decide) (fun c_33 => ?_) (fun c_33 => ?_)
      · refine v_iinc (j := 1) (L' := [(5, _), (6, _), (4, _), (3, _), (2, _), (1, _), (0, _)]) (v := nI (i + 1)) dX8_descend_70 rfl (nI_1 _) (Nat.le_of_ble_eq_true rfl) rfl ?_
        refine v_goto (tgt := 3) dX8_descend_73 (by decide) ?_
        refine v_sub (L' := [(5, _), (4, _), (3, _), (2, _), (1, _), (0, _)]) [0, 2, 3, 4, 5, 6] rfl ?_
        first
          | (have c9 := H1; refine ih (i + 1) _ (by omega) ?_; rw [dO_p hq9, ← List.append_assoc]; exact c9)
          | (have hq9 : ¬ (dQ R hm ly kd l1 l2) c i = true := fun r => (by
               obtain ⟨a1, a2, a3⟩ := dQ_iff.mp r
               first
                 | exact absurd c_54 (by rw [if_pos a3]; decide)
                 | exact absurd c_41 (by rw [if_pos a1]; decide)
                 | exact absurd (congrArg nI a2) c_33)
             refine ih (i + 1) _ (by omega) ?_
             rw [dO_n hq9]
             exact H)
      · refine v_aload dX8_descend_36 0 rfl ?_
        refine v_getf 6 (ci := 3) (C := RX5) (T := TX5) (N := 10) rfl iwX8_descend_X5 (Nat.le_of_ble_eq_true rfl) (by first | decide +kernel | (change Cond.fieldLink RX8 _ _ _ _ ∈ wsX8_descend; decide +kernel)) dX8_descend_38 (by first | with_reducible assumption) rfl ?_
        refine v_if_eq (tgt := 70) dX8_descend_41 (by decide) (fun c_41 => ?_) (fun c_41 => ?_)
        · refine v_iinc (j := 1) (L' := [(5, _), (6, _), (4, _), (3, _), (2, _), (1, _), (0, _)]) (v := nI (i + 1)) dX8_descend_70 rfl (nI_1 _) (Nat.le_of_ble_eq_true rfl) rfl ?_
          refine v_goto (tgt := 3) dX8_descend_73 (by decide) ?_
          refine v_sub (L' := [(5, _), (4, _), (3, _), (2, _), (1, _), (0, _)]) [0, 2, 3, 4, 5, 6] rfl ?_
          first
            | (have c9 := H1; refine ih (i + 1) _ (by omega) ?_; rw [dO_p hq9, ← List.append_assoc]; exact c9)
            | (have hq9 : ¬ (dQ R hm ly kd l1 l2) c i = true := fun r => (by
                 obtain ⟨a1, a2, a3⟩ := dQ_iff.mp r
                 first
                   | exact absurd c_54 (by rw [if_pos a3]; decide)
                   | exact absurd c_41 (by rw [if_pos a1]; decide)
                   | exact absurd (congrArg nI a2) c_33)
               refine ih (i + 1) _ (by omega) ?_
               rw [dO_n hq9]
               exact H)
        · refine v_aload dX8_descend_44 2 rfl ?_
          refine v_aload dX8_descend_46 0 rfl ?_
          refine v_getf 1 (ci := 3) (C := RX5) (T := TX5) (N := 10) rfl iwX8_descend_X5 (Nat.le_of_ble_eq_true rfl) (by first | decide +kernel | (change Cond.fieldLink RX8 _ _ _ _ ∈ wsX8_descend; decide +kernel)) dX8_descend_48 (by first | with_reducible assumption) rfl ?_
          refine v_callVq (M' := mX7_looksAt) (n := 1) (As := [_]) (ci := 5) (r := (RX7, TX7, 8)) gX8_descend_X7_looksAt rfl (by first | decide +kernel | (change Cond.fieldLink RX8 _ _ _ _ ∈ wsX8_descend; decide +kernel)) (by refine ⟨?_, ?_⟩ <;> (dsimp only [mX7_looksAt, mDs]; omega)) rfl rfl dX8_descend_51 rfl ⟨(Nat.le_of_ble_eq_true rfl), (Nat.le_of_ble_eq_true rfl)⟩ (Nat.le_of_ble_eq_true rfl) (by first | with_reducible assumption) rfl (c_looksAt G _ _ q n0 kd hkd l1 l2 x3 x4 x5 x6 rq (ly i)) (fun v h1 z1 hq => v_pq hq ?_)
          refine v_if_eq (tgt := 70) dX8_descend_54 (by decide) (fun c_54 => ?_) (fun c_54 => ?_)
          · refine v_iinc (j := 1) (L' := [(5, _), (6, _), (4, _), (3, _), (2, _), (1, _), (0, _)]) (v := nI (i + 1)) dX8_descend_70 rfl (nI_1 _) (Nat.le_of_ble_eq_true rfl) rfl ?_
            refine v_goto (tgt := 3) dX8_descend_73 (by decide) ?_
            refine v_sub (L' := [(5, _), (4, _), (3, _), (2, _), (1, _), (0, _)]) [0, 2, 3, 4, 5, 6] rfl ?_
            first
              | (have c9 := H1; refine ih (i + 1) _ (by omega) ?_; rw [dO_p hq9, ← List.append_assoc]; exact c9)
              | (have hq9 : ¬ (dQ R hm ly kd l1 l2) c i = true := fun r => (by
                   obtain ⟨a1, a2, a3⟩ := dQ_iff.mp r
                   first
                     | exact absurd c_54 (by rw [if_pos a3]; decide)
                     | exact absurd c_41 (by rw [if_pos a1]; decide)
                     | exact absurd (congrArg nI a2) c_33)
                 refine ih (i + 1) _ (by omega) ?_
                 rw [dO_n hq9]
                 exact H)
          · have hq9 : (dQ R hm ly kd l1 l2) c i = true := dQ_iff.mpr ⟨sv_ifn c_41, (nI_eq (by omega) (by omega)).mp c_33, sv_ifn c_54⟩
            have hl9 : (S ++ dO i (dQ R hm ly kd l1 l2) c w).length < 100 := by
              have := dO_le (Q := (dQ R hm ly kd l1 l2)) (c := c) (w := w) (show i + 1 ≤ np by omega)
              rw [dO_p hq9, List.length_append] at this
              rw [List.length_append]
              have e8 : ([(w, i)] : List (List Nat × Nat)).length = 1 := rfl
              omega
            refine v_aload_n dX8_descend_57 rfl 6 rfl ?_
            refine v_iload dX8_descend_58 1 rfl ?_
            refine v_iload_n dX8_descend_60 rfl 3 rfl ?_
            refine v_aload_n dX8_descend_61 rfl 6 rfl ?_
            refine v_getf 1 (ci := 6) (C := RX8) (T := TX8) (N := 14) rfl iwX8_descend_X8 (Nat.le_of_ble_eq_true rfl) (by first | decide +kernel | (change Cond.fieldLink RX8 _ _ _ _ ∈ wsX8_descend; decide +kernel)) dX8_descend_62 (by first | with_reducible assumption) rfl ?_
            refine v_iload_n dX8_descend_65 rfl 4 rfl ?_
            refine v_aaldS (t := 3) (q := b + 48 + w.length) dX8_descend_66 (fun _ => rfl) (by first | with_reducible assumption) (vp_in_nI (by omega) (by omega)) (by rw [nI_clamp (by omega)]; exact s7 _ (by omega)) ?_
            refine v_callVq (M' := mX8_put) (n := 3) (As := [_, _, _]) (ci := 6) (r := (RX8, TX8, 14)) gX8_descend_X8_put rfl (by first | decide +kernel | (change Cond.fieldLink RX8 _ _ _ _ ∈ wsX8_descend; decide +kernel)) (by refine ⟨?_, ?_⟩ <;> (dsimp only [mX8_put, mDs]; omega)) rfl rfl dX8_descend_67 rfl ⟨(Nat.le_of_ble_eq_true rfl), (Nat.le_of_ble_eq_true rfl)⟩ (Nat.le_of_ble_eq_true rfl) (by first | with_reducible assumption) rfl (c_put G h0 h z b mp w (S ++ dO i (dQ R hm ly kd l1 l2) c w) H i hl9 hw) (fun v h1 z1 hq8 => ?_)
            obtain ⟨rfl, rfl, H1⟩ := hq8
            refine v_iinc (j := 1) (L' := [(5, _), (6, _), (4, _), (3, _), (2, _), (1, _), (0, _)]) (v := nI (i + 1)) dX8_descend_70 rfl (nI_1 _) (Nat.le_of_ble_eq_true rfl) rfl ?_
            refine v_goto (tgt := 3) dX8_descend_73 (by decide) ?_
            refine v_sub (L' := [(5, _), (4, _), (3, _), (2, _), (1, _), (0, _)]) [0, 2, 3, 4, 5, 6] rfl ?_
            first
              | (have c9 := H1; refine ih (i + 1) _ (by omega) ?_; rw [dO_p hq9, ← List.append_assoc]; exact c9)
              | (have hq9 : ¬ (dQ R hm ly kd l1 l2) c i = true := fun r => (by
                   obtain ⟨a1, a2, a3⟩ := dQ_iff.mp r
                   first
                     | exact absurd c_54 (by rw [if_pos a3]; decide)
                     | exact absurd c_41 (by rw [if_pos a1]; decide)
                     | exact absurd (congrArg nI a2) c_33)
                 refine ih (i + 1) _ (by omega) ?_
                 rw [dO_n hq9]
                 exact H)

set_option maxHeartbeats 4000000 in
set_option maxRecDepth 100000 in
theorem l_plc (G : sv_G) (Qr : Option Value → sv_h → Nat → Prop) (h0 : sv_h) (z b : Nat) (k : Int32) (nc np pl : Nat) (R : Nat → Bool) (hm p3 p4 pa ma sz : Nat → Nat) (ly vo ar : Nat → Int32) (mp : Nat → mvT) (N : Nat → Nat) (X : sx_ G h0 b k nc np pl R hm p3 p4 pa ma sz ly vo ar mp N) (q : Nat) (hqa : q < b + 35 ∨ b + 164 ≤ q) (n0 : Int64) (kd : Nat) (hkd : kd < 11) (l1 l2 x3 x4 x5 x6 : Int32) (hru : h0 q = some (.inr (5, [.long n0, .ref (G.2.2.2.2.1 kd), .int l1, .int l2, .int x3, .int x4, .int x5, .int x6]))) (hN : ∀ r c, r ≤ 16 → c < nc → oc_n np pl R hm p3 p4 r c ≤ N c) (f : Nat) (w : List Nat) (hwf : w.length + (f + 2) = 16) (c : Nat) (hc : c < nc) (S : List (List Nat × Nat)) (hS : S.length + (dP pl (fun i => if p3 i = c then dS np pl (dQ R hm ly kd l1 l2) p3 p4 (f + 1) (p4 i) (w ++ [i]) else [])).length ≤ 100) (IH : ∀ (w : List Nat) (c : Nat) (S : List (List Nat × Nat)) (h : sv_h), w.length + (f + 1) = 16 → c < nc → sc_ G b mp h0 h w S → S.length + (dS np pl (dQ R hm ly kd l1 l2) p3 p4 (f + 1) c w).length ≤ 100 → CT G (mDs f) [.ref (b + 35), .int (nI c), .int (nI w.length), .int (brn w), .ref q] h z (fun v h1 z1 => v = none ∧ z1 = z ∧ sc_ G b mp h0 h1 w (S ++ dS np pl (dQ R hm ly kd l1 l2) p3 p4 (f + 1) c w))) (hk : ∀ h1, sc_ G b mp h0 h1 w (S ++ dP pl (fun i => if p3 i = c then dS np pl (dQ R hm ly kd l1 l2) p3 p4 (f + 1) (p4 i) (w ++ [i]) else [])) → Qr none h1 z) : ∀ (e i : Nat) (h : sv_h), i + e = pl → sc_ G b mp h0 h w (S ++ dP i (fun i => if p3 i = c then dS np pl (dQ R hm ly kd l1 l2) p3 p4 (f + 1) (p4 i) (w ++ [i]) else [])) → V G (mDs (f + 1)) (sv_MQ G (mDs (f + 1)) Qr) 126 [(6, .int (nI i)), (4, .ref q), (3, .int (brn w)), (2, .int (nI w.length)), (1, .int (nI c)), (0, .ref (b + 35))] [] h z 0 0 := by
  intro e
  induction e with
  | zero =>
    intro i h hie H
    obtain ⟨s0, s1, ⟨fs, s2, s3⟩, ⟨fb, s4, s5⟩, ⟨fp, s6, s7⟩, ⟨fl, s8, s9⟩, sA, sB, sC, sD, sF⟩ := id H
    obtain ⟨g1, ⟨f2, g2, g2a⟩, ⟨f3, g3, g3a⟩, ⟨f4, g4, g4a⟩, ⟨f5, g5, g5a⟩, ⟨f6, g6, g6a⟩, gp, gm, gn, gnp, gpl⟩ := id X
    have r1 := (sF (b + 1) (by omega) (by omega)).trans g1
    have r2 : ab_Q G h (b + 2) 4 64 f2 := (sF (b + 2) (by omega) (by omega)).trans g2
    have r3 : ab_I G h (b + 3) 32 f3 := (sF (b + 3) (by omega) (by omega)).trans g3
    have r4 : ab_I G h (b + 4) 32 f4 := (sF (b + 4) (by omega) (by omega)).trans g4
    have r5 : ab_Q G h (b + 5) 3 32 f5 := (sF (b + 5) (by omega) (by omega)).trans g5
    have r6 : ab_I G h (b + 6) 16 f6 := (sF (b + 6) (by omega) (by omega)).trans g6
    have rq := (sF q (by omega) (by omega)).trans hru
    refine v_iload dX8_descend_126 0 rfl ?_
    refine v_aload_n dX8_descend_128 rfl 5 rfl ?_
    refine v_getf 0 (ci := 6) (C := RX8) (T := TX8) (N := 14) rfl iwX8_descend_X8 (Nat.le_of_ble_eq_true rfl) (by first | decide +kernel | (change Cond.fieldLink RX8 _ _ _ _ ∈ wsX8_descend; decide +kernel)) dX8_descend_129 (by repeat (first | with_reducible assumption | with_reducible refine (k2 _ (by omega)).trans ?_)) (by exact rfl) ?_
    refine v_getf 7 (ci := 1) (C := RX3) (T := TX3) (N := 10) rfl iwX8_descend_X3 (Nat.le_of_ble_eq_true rfl) (by first | decide +kernel | (change Cond.fieldLink RX8 _ _ _ _ ∈ wsX8_descend; decide +kernel)) dX8_descend_132 (by repeat (first | with_reducible assumption | with_reducible refine (k2 _ (by omega)).trans ?_)) (by exact rfl) ?_
    refine v_icmp_ge (tgt := 231) dX8_descend_135 (by decide) (fun c_135 => ?_) (fun c_135 => ?_)
    · exact v_ret rfl dX8_descend_231 (Nat.le_of_ble_eq_true rfl) (Nat.le_of_ble_eq_true rfl) (by
              have e9 : i = pl := by omega
              rw [e9] at H
              exact hk h H)
    · exact absurd (nI_le (show pl ≤ i by omega) (by omega)) c_135
  | succ e ih =>
    intro i h hie H
    obtain ⟨s0, s1, ⟨fs, s2, s3⟩, ⟨fb, s4, s5⟩, ⟨fp, s6, s7⟩, ⟨fl, s8, s9⟩, sA, sB, sC, sD, sF⟩ := id H
    obtain ⟨g1, ⟨f2, g2, g2a⟩, ⟨f3, g3, g3a⟩, ⟨f4, g4, g4a⟩, ⟨f5, g5, g5a⟩, ⟨f6, g6, g6a⟩, gp, gm, gn, gnp, gpl⟩ := id X
    have r1 := (sF (b + 1) (by omega) (by omega)).trans g1
    have r2 : ab_Q G h (b + 2) 4 64 f2 := (sF (b + 2) (by omega) (by omega)).trans g2
    have r3 : ab_I G h (b + 3) 32 f3 := (sF (b + 3) (by omega) (by omega)).trans g3
    have r4 : ab_I G h (b + 4) 32 f4 := (sF (b + 4) (by omega) (by omega)).trans g4
    have r5 : ab_Q G h (b + 5) 3 32 f5 := (sF (b + 5) (by omega) (by omega)).trans g5
    have r6 : ab_I G h (b + 6) 16 f6 := (sF (b + 6) (by omega) (by omega)).trans g6
    have rq := (sF q (by omega) (by omega)).trans hru
    obtain ⟨rm0, rm1, rm2, rm3, rm4⟩ := gm i (by omega)
    have rm := (sF (ma i) (by omega) (by omega)).trans rm0
    obtain ⟨y0, y1, y2, y3, hy⟩ := sA (w.length + 1) (by omega)
    have hp9 : h (b + 48 + w.length) = mvC (mvW mp w) := by
      have := sB w.length (Nat.le_refl _)
      rwa [List.take_length] at this
    refine v_iload dX8_descend_126 0 rfl ?_
    refine v_aload_n dX8_descend_128 rfl 5 rfl ?_
    refine v_getf 0 (ci := 6) (C := RX8) (T := TX8) (N := 14) rfl iwX8_descend_X8 (Nat.le_of_ble_eq_true rfl) (by first | decide +kernel | (change Cond.fieldLink RX8 _ _ _ _ ∈ wsX8_descend; decide +kernel)) dX8_descend_129 (by repeat (first | with_reducible assumption | with_reducible refine (k2 _ (by omega)).trans ?_)) (by exact rfl) ?_
    refine v_getf 7 (ci := 1) (C := RX3) (T := TX3) (N := 10) rfl iwX8_descend_X3 (Nat.le_of_ble_eq_true rfl) (by first | decide +kernel | (change Cond.fieldLink RX8 _ _ _ _ ∈ wsX8_descend; decide +kernel)) dX8_descend_132 (by repeat (first | with_reducible assumption | with_reducible refine (k2 _ (by omega)).trans ?_)) (by exact rfl) ?_
    refine v_icmp_ge (tgt := 231) dX8_descend_135 (by decide) (fun c_135 => ?_) (fun c_135 => ?_)
    · exact absurd c_135 (nI_ge (show i < pl by omega) (by omega))
    · refine v_aload_n dX8_descend_138 rfl 5 rfl ?_
      refine v_getf 0 (ci := 6) (C := RX8) (T := TX8) (N := 14) rfl iwX8_descend_X8 (Nat.le_of_ble_eq_true rfl) (by first | decide +kernel | (change Cond.fieldLink RX8 _ _ _ _ ∈ wsX8_descend; decide +kernel)) dX8_descend_139 (by repeat (first | with_reducible assumption | with_reducible refine (k2 _ (by omega)).trans ?_)) (by exact rfl) ?_
      refine v_getf 5 (ci := 1) (C := RX3) (T := TX3) (N := 10) rfl iwX8_descend_X3 (Nat.le_of_ble_eq_true rfl) (by first | decide +kernel | (change Cond.fieldLink RX8 _ _ _ _ ∈ wsX8_descend; decide +kernel)) dX8_descend_142 (by repeat (first | with_reducible assumption | with_reducible refine (k2 _ (by omega)).trans ?_)) (by exact rfl) ?_
      refine v_iload dX8_descend_145 0 rfl ?_
      refine v_ialdS (v := nI (p4 i)) dX8_descend_147 (by repeat (first | with_reducible assumption | with_reducible refine (k2 _ (by omega)).trans ?_)) (vp_in_nI (by omega) (by omega)) (by rw [nI_clamp (by omega)]; exact g4a i (by omega)) ?_
      refine v_istore (L' := [(7, _), (6, _), (4, _), (3, _), (2, _), (1, _), (0, _)]) dX8_descend_148 (Nat.le_of_ble_eq_true rfl) rfl ?_
      refine v_aload_n dX8_descend_150 rfl 6 rfl ?_
      refine v_getf 0 (ci := 6) (C := RX8) (T := TX8) (N := 14) rfl iwX8_descend_X8 (Nat.le_of_ble_eq_true rfl) (by first | decide +kernel | (change Cond.fieldLink RX8 _ _ _ _ ∈ wsX8_descend; decide +kernel)) dX8_descend_151 (by repeat (first | with_reducible assumption | with_reducible refine (k2 _ (by omega)).trans ?_)) (by exact rfl) ?_
      refine v_getf 4 (ci := 1) (C := RX3) (T := TX3) (N := 10) rfl iwX8_descend_X3 (Nat.le_of_ble_eq_true rfl) (by first | decide +kernel | (change Cond.fieldLink RX8 _ _ _ _ ∈ wsX8_descend; decide +kernel)) dX8_descend_154 (by repeat (first | with_reducible assumption | with_reducible refine (k2 _ (by omega)).trans ?_)) (by exact rfl) ?_
      refine v_iload dX8_descend_157 1 rfl ?_
      refine v_ialdS (v := nI (p3 i)) dX8_descend_159 (by repeat (first | with_reducible assumption | with_reducible refine (k2 _ (by omega)).trans ?_)) (vp_in_nI (by omega) (by omega)) (by rw [nI_clamp (by omega)]; exact g3a i (by omega)) ?_
      refine v_iload_n dX8_descend_160 rfl 5 rfl ?_
      refine v_icmp_ne (tgt := 225) dX8_descend_161 (by decide) (fun c_161 => ?_) (fun c_161 => ?_)
      · refine v_iinc (j := 1) (L' := [(6, _), (7, _), (4, _), (3, _), (2, _), (1, _), (0, _)]) (v := nI (i + 1)) dX8_descend_225 rfl (nI_1 _) (Nat.le_of_ble_eq_true rfl) rfl ?_
        refine v_goto (tgt := 126) dX8_descend_228 (by decide) ?_
        refine v_sub (L' := [(6, _), (4, _), (3, _), (2, _), (1, _), (0, _)]) [0, 2, 3, 4, 5, 6] rfl ?_
        first
          | (have c9 := H2.cut; refine ih (i + 1) _ (by omega) ?_; rw [dP_s, if_pos e3, ← List.append_assoc]; exact c9)
          | (refine ih (i + 1) _ (by omega) ?_
             rw [dP_s]
             have e9 : (if p3 i = c then dS np pl (dQ R hm ly kd l1 l2) p3 p4 (f + 1) (p4 i) (w ++ [i]) else []) = [] := (by
               by_cases e3 : p3 i = c
               · rw [if_pos e3]
                 refine List.eq_nil_of_length_eq_zero ?_
                 have c9 : nI (min 101 (N (p4 i))) ≤ 0 := (by first | exact c_174 | exact absurd (congrArg nI e3) c_161)
                 have z9 : N (p4 i) = 0 := (by
                   by_cases z8 : N (p4 i) = 0
                   · exact z8
                   · exact absurd c9 (nI_nle (n := min 101 (N (p4 i))) (by omega) (by omega)))
                 have l9 := dS_len (np := np) (pl := pl) (Q := (dQ R hm ly kd l1 l2)) (R := R) (hm := hm) (p3 := p3) (p4 := p4) (fun c p r => ⟨(dQ_iff.mp r).1, (dQ_iff.mp r).2.1⟩) (f + 1) (p4 i) (w ++ [i])
                 have l8 := hN (f + 1) (p4 i) (by omega) rm3
                 omega
               · rw [if_neg e3])
             rw [e9, List.append_nil]
             exact H)
      · refine v_aload_n dX8_descend_164 rfl 6 rfl ?_
        refine v_getf 0 (ci := 6) (C := RX8) (T := TX8) (N := 14) rfl iwX8_descend_X8 (Nat.le_of_ble_eq_true rfl) (by first | decide +kernel | (change Cond.fieldLink RX8 _ _ _ _ ∈ wsX8_descend; decide +kernel)) dX8_descend_165 (by repeat (first | with_reducible assumption | with_reducible refine (k2 _ (by omega)).trans ?_)) (by exact rfl) ?_
        refine v_getf 8 (ci := 1) (C := RX3) (T := TX3) (N := 10) rfl iwX8_descend_X3 (Nat.le_of_ble_eq_true rfl) (by first | decide +kernel | (change Cond.fieldLink RX8 _ _ _ _ ∈ wsX8_descend; decide +kernel)) dX8_descend_168 (by repeat (first | with_reducible assumption | with_reducible refine (k2 _ (by omega)).trans ?_)) (by exact rfl) ?_
        refine v_iload dX8_descend_171 0 rfl ?_
        refine v_ialdS (v := nI (min 101 (N (p4 i)))) dX8_descend_173 (by repeat (first | with_reducible assumption | with_reducible refine (k2 _ (by omega)).trans ?_)) (vp_in_nI (by omega) (by omega)) (by rw [nI_clamp (by omega)]; exact g6a _ rm3) ?_
        refine v_if_le (tgt := 225) dX8_descend_174 (by decide) (fun c_174 => ?_) (fun c_174 => ?_)
        · refine v_iinc (j := 1) (L' := [(6, _), (7, _), (4, _), (3, _), (2, _), (1, _), (0, _)]) (v := nI (i + 1)) dX8_descend_225 rfl (nI_1 _) (Nat.le_of_ble_eq_true rfl) rfl ?_
          refine v_goto (tgt := 126) dX8_descend_228 (by decide) ?_
          refine v_sub (L' := [(6, _), (4, _), (3, _), (2, _), (1, _), (0, _)]) [0, 2, 3, 4, 5, 6] rfl ?_
          first
            | (have c9 := H2.cut; refine ih (i + 1) _ (by omega) ?_; rw [dP_s, if_pos e3, ← List.append_assoc]; exact c9)
            | (refine ih (i + 1) _ (by omega) ?_
               rw [dP_s]
               have e9 : (if p3 i = c then dS np pl (dQ R hm ly kd l1 l2) p3 p4 (f + 1) (p4 i) (w ++ [i]) else []) = [] := (by
                 by_cases e3 : p3 i = c
                 · rw [if_pos e3]
                   refine List.eq_nil_of_length_eq_zero ?_
                   have c9 : nI (min 101 (N (p4 i))) ≤ 0 := (by first | exact c_174 | exact absurd (congrArg nI e3) c_161)
                   have z9 : N (p4 i) = 0 := (by
                     by_cases z8 : N (p4 i) = 0
                     · exact z8
                     · exact absurd c9 (nI_nle (n := min 101 (N (p4 i))) (by omega) (by omega)))
                   have l9 := dS_len (np := np) (pl := pl) (Q := (dQ R hm ly kd l1 l2)) (R := R) (hm := hm) (p3 := p3) (p4 := p4) (fun c p r => ⟨(dQ_iff.mp r).1, (dQ_iff.mp r).2.1⟩) (f + 1) (p4 i) (w ++ [i])
                   have l8 := hN (f + 1) (p4 i) (by omega) rm3
                   omega
                 · rw [if_neg e3])
               rw [e9, List.append_nil]
               exact H)
        · refine v_aload_n dX8_descend_177 rfl 6 rfl ?_
          refine v_getf 1 (ci := 6) (C := RX8) (T := TX8) (N := 14) rfl iwX8_descend_X8 (Nat.le_of_ble_eq_true rfl) (by first | decide +kernel | (change Cond.fieldLink RX8 _ _ _ _ ∈ wsX8_descend; decide +kernel)) dX8_descend_178 (by repeat (first | with_reducible assumption | with_reducible refine (k2 _ (by omega)).trans ?_)) (by exact rfl) ?_
          refine v_iload_n dX8_descend_181 rfl 4 rfl ?_
          refine v_iconst (v := 1) dX8_descend_182 (by decide) ?_
          refine v_iadd dX8_descend_183 ?_
          rw [nI_1]
          refine v_aaldS (t := 3) (q := b + 48 + (w.length + 1)) dX8_descend_184 (fun _ => rfl) (by repeat (first | with_reducible assumption | with_reducible refine (k2 _ (by omega)).trans ?_)) (vp_in_nI (by omega) (by omega)) (by rw [nI_clamp (by omega)]; exact s7 _ (by omega)) ?_
          refine v_aload_n dX8_descend_185 rfl 6 rfl ?_
          refine v_getf 1 (ci := 6) (C := RX8) (T := TX8) (N := 14) rfl iwX8_descend_X8 (Nat.le_of_ble_eq_true rfl) (by first | decide +kernel | (change Cond.fieldLink RX8 _ _ _ _ ∈ wsX8_descend; decide +kernel)) dX8_descend_186 (by repeat (first | with_reducible assumption | with_reducible refine (k2 _ (by omega)).trans ?_)) (by exact rfl) ?_
          refine v_iload_n dX8_descend_189 rfl 4 rfl ?_
          refine v_aaldS (t := 3) (q := b + 48 + w.length) dX8_descend_190 (fun _ => rfl) (by repeat (first | with_reducible assumption | with_reducible refine (k2 _ (by omega)).trans ?_)) (vp_in_nI (by omega) (by omega)) (by rw [nI_clamp (by omega)]; exact s7 _ (by omega)) ?_
          refine v_aload_n dX8_descend_191 rfl 6 rfl ?_
          refine v_getf 0 (ci := 6) (C := RX8) (T := TX8) (N := 14) rfl iwX8_descend_X8 (Nat.le_of_ble_eq_true rfl) (by first | decide +kernel | (change Cond.fieldLink RX8 _ _ _ _ ∈ wsX8_descend; decide +kernel)) dX8_descend_192 (by repeat (first | with_reducible assumption | with_reducible refine (k2 _ (by omega)).trans ?_)) (by exact rfl) ?_
          refine v_getf 6 (ci := 1) (C := RX3) (T := TX3) (N := 10) rfl iwX8_descend_X3 (Nat.le_of_ble_eq_true rfl) (by first | decide +kernel | (change Cond.fieldLink RX8 _ _ _ _ ∈ wsX8_descend; decide +kernel)) dX8_descend_195 (by repeat (first | with_reducible assumption | with_reducible refine (k2 _ (by omega)).trans ?_)) (by exact rfl) ?_
          refine v_iload dX8_descend_198 1 rfl ?_
          refine v_aaldS (t := 3) (q := ma i) dX8_descend_200 (fun _ => rfl) (by repeat (first | with_reducible assumption | with_reducible refine (k2 _ (by omega)).trans ?_)) (vp_in_nI (by omega) (by omega)) (by rw [nI_clamp (by omega)]; exact g5a i (by omega)) ?_
          refine v_callVq (M' := mX4_join) (n := 2) (As := [_, _]) (ci := 2) (r := (RX4, TX4, 4)) gX8_descend_X4_join rfl (by first | decide +kernel | (change Cond.fieldLink RX8 _ _ _ _ ∈ wsX8_descend; decide +kernel)) (by refine ⟨?_, ?_⟩ <;> (dsimp only [mX4_join, mDs]; omega)) rfl rfl dX8_descend_201 rfl ⟨(Nat.le_of_ble_eq_true rfl), (Nat.le_of_ble_eq_true rfl)⟩ (Nat.le_of_ble_eq_true rfl) (by repeat (first | with_reducible assumption | with_reducible refine (k2 _ (by omega)).trans ?_)) rfl (c_join G h z (b + 48 + (w.length + 1)) (b + 48 + w.length) (ma i) (mvW mp w) (mp i) (mvW_q mp w) rm1 (by omega) (by omega) y0 y1 y2 y3 hy hp9 rm) (fun v h1 z1 hq8 => ?_)
          obtain ⟨rfl, rfl, k1, k2⟩ := hq8
          have H1 := sc_.ext H (by omega) k1 k2
          refine v_aload_n dX8_descend_204 rfl 6 rfl ?_
          refine v_iload dX8_descend_205 0 rfl ?_
          refine v_iload_n dX8_descend_207 rfl 4 rfl ?_
          refine v_iconst (v := 1) dX8_descend_208 (by decide) ?_
          refine v_iadd dX8_descend_209 ?_
          rw [nI_1]
          refine v_iload_n dX8_descend_210 rfl 4 rfl ?_
          refine v_if_ne (tgt := 219) dX8_descend_211 (by decide) (fun c_211 => ?_) (fun c_211 => ?_)
          · refine v_iload_n dX8_descend_219 rfl 3 rfl ?_
            refine v_aload dX8_descend_220 2 rfl ?_
            have e3 : p3 i = c := (nI_eq (by omega) (by omega)).mp c_161
            have hl9 : (S ++ dP i (fun i => if p3 i = c then dS np pl (dQ R hm ly kd l1 l2) p3 p4 (f + 1) (p4 i) (w ++ [i]) else [])).length + (dS np pl (dQ R hm ly kd l1 l2) p3 p4 (f + 1) (p4 i) (w ++ [i])).length ≤ 100 := by
              have := dP_le (F := (fun i => if p3 i = c then dS np pl (dQ R hm ly kd l1 l2) p3 p4 (f + 1) (p4 i) (w ++ [i]) else [])) (show i + 1 ≤ pl by omega)
              rw [dP_s, if_pos e3, List.length_append] at this
              rw [List.length_append]
              omega
            have hb9 : brn (w ++ [i]) = (if w = [] then nI i else brn w) := brn_s w i
            have hlw : (w ++ [i]).length = w.length + 1 := by rw [List.length_append]; rfl
            have hct := IH (w ++ [i]) (p4 i) (S ++ dP i (fun i => if p3 i = c then dS np pl (dQ R hm ly kd l1 l2) p3 p4 (f + 1) (p4 i) (w ++ [i]) else [])) h1 (by omega) rm3 H1 hl9
            rw [hlw] at hct
            rw [hb9, if_neg (show ¬ w = [] from fun e8 => c_211 (by rw [e8]; exact nI_0))] at hct
            refine v_callVq (M' := mDs f) (n := 4) (As := [_, _, _, _]) (ci := 6) (r := (RX8, TX8, 14)) gX8_descend_X8_descend rfl (by change yX8_descend.cls = yX8_descend.cls ∧ yX8_descend.cls ≠ _ ∧ yX8_descend.cls ≠ _ ∧ (parseMethodDescriptor yX8_descend.desc).map _ = _; decide +kernel) (by refine ⟨?_, ?_⟩ <;> (dsimp only [mDs]; omega)) rfl rfl dX8_descend_222 rfl ⟨(Nat.le_of_ble_eq_true rfl), (Nat.le_of_ble_eq_true rfl)⟩ (Nat.le_of_ble_eq_true rfl) (by repeat (first | with_reducible assumption | with_reducible refine (k2 _ (by omega)).trans ?_)) rfl (hct) (fun v h2 z2 hq8 => ?_)
            obtain ⟨rfl, rfl, H2⟩ := hq8
            refine v_iinc (j := 1) (L' := [(6, _), (7, _), (4, _), (3, _), (2, _), (1, _), (0, _)]) (v := nI (i + 1)) dX8_descend_225 rfl (nI_1 _) (Nat.le_of_ble_eq_true rfl) rfl ?_
            refine v_goto (tgt := 126) dX8_descend_228 (by decide) ?_
            refine v_sub (L' := [(6, _), (4, _), (3, _), (2, _), (1, _), (0, _)]) [0, 2, 3, 4, 5, 6] rfl ?_
            first
              | (have c9 := H2.cut; refine ih (i + 1) _ (by omega) ?_; rw [dP_s, if_pos e3, ← List.append_assoc]; exact c9)
              | (refine ih (i + 1) _ (by omega) ?_
                 rw [dP_s]
                 have e9 : (if p3 i = c then dS np pl (dQ R hm ly kd l1 l2) p3 p4 (f + 1) (p4 i) (w ++ [i]) else []) = [] := (by
                   by_cases e3 : p3 i = c
                   · rw [if_pos e3]
                     refine List.eq_nil_of_length_eq_zero ?_
                     have c9 : nI (min 101 (N (p4 i))) ≤ 0 := (by first | exact c_174 | exact absurd (congrArg nI e3) c_161)
                     have z9 : N (p4 i) = 0 := (by
                       by_cases z8 : N (p4 i) = 0
                       · exact z8
                       · exact absurd c9 (nI_nle (n := min 101 (N (p4 i))) (by omega) (by omega)))
                     have l9 := dS_len (np := np) (pl := pl) (Q := (dQ R hm ly kd l1 l2)) (R := R) (hm := hm) (p3 := p3) (p4 := p4) (fun c p r => ⟨(dQ_iff.mp r).1, (dQ_iff.mp r).2.1⟩) (f + 1) (p4 i) (w ++ [i])
                     have l8 := hN (f + 1) (p4 i) (by omega) rm3
                     omega
                   · rw [if_neg e3])
                 rw [e9, List.append_nil]
                 exact H)
          · refine v_iload dX8_descend_214 1 rfl ?_
            refine v_goto (tgt := 220) dX8_descend_216 (by decide) ?_
            refine v_aload dX8_descend_220 2 rfl ?_
            have e3 : p3 i = c := (nI_eq (by omega) (by omega)).mp c_161
            have hl9 : (S ++ dP i (fun i => if p3 i = c then dS np pl (dQ R hm ly kd l1 l2) p3 p4 (f + 1) (p4 i) (w ++ [i]) else [])).length + (dS np pl (dQ R hm ly kd l1 l2) p3 p4 (f + 1) (p4 i) (w ++ [i])).length ≤ 100 := by
              have := dP_le (F := (fun i => if p3 i = c then dS np pl (dQ R hm ly kd l1 l2) p3 p4 (f + 1) (p4 i) (w ++ [i]) else [])) (show i + 1 ≤ pl by omega)
              rw [dP_s, if_pos e3, List.length_append] at this
              rw [List.length_append]
              omega
            have hb9 : brn (w ++ [i]) = (if w = [] then nI i else brn w) := brn_s w i
            have hlw : (w ++ [i]).length = w.length + 1 := by rw [List.length_append]; rfl
            have hct := IH (w ++ [i]) (p4 i) (S ++ dP i (fun i => if p3 i = c then dS np pl (dQ R hm ly kd l1 l2) p3 p4 (f + 1) (p4 i) (w ++ [i]) else [])) h1 (by omega) rm3 H1 hl9
            rw [hlw] at hct
            rw [hb9, if_pos (show w = [] from List.eq_nil_of_length_eq_zero ((nI_eq (b := 0) (by omega) (by decide)).mp c_211))] at hct
            refine v_callVq (M' := mDs f) (n := 4) (As := [_, _, _, _]) (ci := 6) (r := (RX8, TX8, 14)) gX8_descend_X8_descend rfl (by change yX8_descend.cls = yX8_descend.cls ∧ yX8_descend.cls ≠ _ ∧ yX8_descend.cls ≠ _ ∧ (parseMethodDescriptor yX8_descend.desc).map _ = _; decide +kernel) (by refine ⟨?_, ?_⟩ <;> (dsimp only [mDs]; omega)) rfl rfl dX8_descend_222 rfl ⟨(Nat.le_of_ble_eq_true rfl), (Nat.le_of_ble_eq_true rfl)⟩ (Nat.le_of_ble_eq_true rfl) (by repeat (first | with_reducible assumption | with_reducible refine (k2 _ (by omega)).trans ?_)) rfl (hct) (fun v h2 z2 hq8 => ?_)
            obtain ⟨rfl, rfl, H2⟩ := hq8
            refine v_iinc (j := 1) (L' := [(6, _), (7, _), (4, _), (3, _), (2, _), (1, _), (0, _)]) (v := nI (i + 1)) dX8_descend_225 rfl (nI_1 _) (Nat.le_of_ble_eq_true rfl) rfl ?_
            refine v_goto (tgt := 126) dX8_descend_228 (by decide) ?_
            refine v_sub (L' := [(6, _), (4, _), (3, _), (2, _), (1, _), (0, _)]) [0, 2, 3, 4, 5, 6] rfl ?_
            first
              | (have c9 := H2.cut; refine ih (i + 1) _ (by omega) ?_; rw [dP_s, if_pos e3, ← List.append_assoc]; exact c9)
              | (refine ih (i + 1) _ (by omega) ?_
                 rw [dP_s]
                 have e9 : (if p3 i = c then dS np pl (dQ R hm ly kd l1 l2) p3 p4 (f + 1) (p4 i) (w ++ [i]) else []) = [] := (by
                   by_cases e3 : p3 i = c
                   · rw [if_pos e3]
                     refine List.eq_nil_of_length_eq_zero ?_
                     have c9 : nI (min 101 (N (p4 i))) ≤ 0 := (by first | exact c_174 | exact absurd (congrArg nI e3) c_161)
                     have z9 : N (p4 i) = 0 := (by
                       by_cases z8 : N (p4 i) = 0
                       · exact z8
                       · exact absurd c9 (nI_nle (n := min 101 (N (p4 i))) (by omega) (by omega)))
                     have l9 := dS_len (np := np) (pl := pl) (Q := (dQ R hm ly kd l1 l2)) (R := R) (hm := hm) (p3 := p3) (p4 := p4) (fun c p r => ⟨(dQ_iff.mp r).1, (dQ_iff.mp r).2.1⟩) (f + 1) (p4 i) (w ++ [i])
                     have l8 := hN (f + 1) (p4 i) (by omega) rm3
                     omega
                   · rw [if_neg e3])
                 rw [e9, List.append_nil]
                 exact H)

