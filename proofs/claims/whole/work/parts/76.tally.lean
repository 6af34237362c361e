/-- how many of the first p polygons are right and lie in c -/
def oc_w (R : Nat → Bool) (hm : Nat → Nat) (c : Nat) : Nat → Nat
  | 0 => 0
  | p + 1 => oc_w R hm c p + (if R p = true ∧ hm p = c then 1 else 0)
/-- the sum of v over the first i places in c -/
def oc_s (p3 p4 v : Nat → Nat) (c : Nat) : Nat → Nat
  | 0 => 0
  | i + 1 => oc_s p3 p4 v c i + (if p3 i = c then v (p4 i) else 0)
/-- how many occurrences c has, so many places deep -/
def oc_n (np pl : Nat) (R : Nat → Bool) (hm p3 p4 : Nat → Nat) : Nat → Nat → Nat
  | 0 => fun _ => 0
  | r + 1 => fun c => oc_w R hm c np + oc_s p3 p4 (oc_n np pl R hm p3 p4 r) c pl
theorem oc_w_le (R : Nat → Bool) (hm : Nat → Nat) (c : Nat) : ∀ p, oc_w R hm c p ≤ p
  | 0 => Nat.le_refl 0
  | p + 1 => by
    have := oc_w_le R hm c p
    show oc_w R hm c p + (if R p = true ∧ hm p = c then 1 else 0) ≤ p + 1
    split <;> omega
theorem oc_w1 {R : Nat → Bool} {hm : Nat → Nat} {c p : Nat} (h : R p = true ∧ hm p = c) : oc_w R hm c (p + 1) = oc_w R hm c p + 1 := by
  show oc_w R hm c p + (if R p = true ∧ hm p = c then 1 else 0) = _
  rw [if_pos h]
theorem oc_w0 {R : Nat → Bool} {hm : Nat → Nat} {c p : Nat} (h : ¬ (R p = true ∧ hm p = c)) : oc_w R hm c (p + 1) = oc_w R hm c p := by
  show oc_w R hm c p + (if R p = true ∧ hm p = c then 1 else 0) = _
  rw [if_neg h]; rfl
theorem oc_s1 {p3 p4 v : Nat → Nat} {c i : Nat} (h : p3 i = c) : oc_s p3 p4 v c (i + 1) = oc_s p3 p4 v c i + v (p4 i) := by
  show oc_s p3 p4 v c i + (if p3 i = c then v (p4 i) else 0) = _
  rw [if_pos h]
theorem oc_s0 {p3 p4 v : Nat → Nat} {c i : Nat} (h : ¬ p3 i = c) : oc_s p3 p4 v c (i + 1) = oc_s p3 p4 v c i := by
  show oc_s p3 p4 v c i + (if p3 i = c then v (p4 i) else 0) = _
  rw [if_neg h]; rfl
/-- at most so many -/
theorem oc_cl (K : Nat) {p3 p4 v w : Nat → Nat} {c a : Nat} : ∀ i, (∀ j, j < i → min K (v (p4 j)) = min K (w (p4 j))) → min K (a + oc_s p3 p4 v c i) = min K (a + oc_s p3 p4 w c i)
  | 0 => fun _ => rfl
  | i + 1 => by
    intro h
    have ih := oc_cl K (p3 := p3) (p4 := p4) (v := v) (w := w) (c := c) (a := a) i (fun j hj => h j (by omega))
    by_cases q : p3 i = c
    · rw [oc_s1 q, oc_s1 q]
      have := h i (by omega)
      omega
    · rw [oc_s0 q, oc_s0 q]; exact ih
theorem gm_minN {a b : Nat} (ha : a < 2 ^ 31) (hb : b < 2 ^ 31) : gm_min (nI a) (nI b) = nI (min a b) := by
  unfold gm_min
  by_cases q : a ≤ b
  · rw [if_pos (nI_le q hb), Nat.min_eq_left q]
  · rw [if_neg (fun r => q ((nI_leI ha hb).mp r)), Nat.min_eq_right (by omega)]
theorem iwX3_tallyOnce_X3 : ∀ w ∈ wsX30, w ∈ wsX3_tallyOnce := by decide +kernel
theorem iwX3_tallyOnce_X5 : ∀ w ∈ wsX50, w ∈ wsX3_tallyOnce := by decide +kernel
theorem iwX3_tally_X3 : ∀ w ∈ wsX30, w ∈ wsX3_tally := by decide +kernel
set_option maxRecDepth 20000 in
theorem ggX3_tally_J7_fill_53178 : GoodIn wsX3_tally wsJ7_fill_53178 := goodIn_r _ [6] (by decide +kernel) (by decide +kernel)
set_option maxRecDepth 20000 in
theorem ggX3_tally_X3_tallyOnce : GoodIn wsX3_tally wsX3_tallyOnce := goodIn_r _ [11, 12, 13, 14, 15, 16, 17, 18, 1, 19, 20, 21, 22, 23, 2, 3, 4, 5, 6, 24, 25, 26, 27, 28, 29, 30, 31, 32, 33, 34, 35, 36, 37, 38, 39, 40, 41, 42, 43] (by decide +kernel) (by decide +kernel)
set_option maxRecDepth 20000 in
theorem gX3_tally_X3_tallyOnce : GoodIn wsX3_tally (wsV RX3 67 RX3 yX3_tallyOnce wsX3_tallyOnce) := goodIn_app (goodIn_of _ (by decide +kernel)) ggX3_tally_X3_tallyOnce
theorem dX3_tally_0 : decode cX3_tally 0 = .ok (.aload_n 0, 1) := by decide +kernel
theorem dX3_tally_1 : decode cX3_tally 1 = .ok (.getfield 30, 3) := by decide +kernel
theorem dX3_tally_4 : decode cX3_tally 4 = .ok (.iconst 0, 1) := by decide +kernel
theorem dX3_tally_5 : decode cX3_tally 5 = .ok (.invokestatic 61, 3) := by decide +kernel
theorem dX3_tally_8 : decode cX3_tally 8 = .ok (.iconst 0, 1) := by decide +kernel
theorem dX3_tally_9 : decode cX3_tally 9 = .ok (.istore_n 2, 1) := by decide +kernel
theorem dX3_tally_10 : decode cX3_tally 10 = .ok (.iload_n 2, 1) := by decide +kernel
theorem dX3_tally_11 : decode cX3_tally 11 = .ok (.aload_n 0, 1) := by decide +kernel
theorem dX3_tally_12 : decode cX3_tally 12 = .ok (.getfield 40, 3) := by decide +kernel
theorem dX3_tally_15 : decode cX3_tally 15 = .ok (.if_icmp .ge 19, 3) := by decide +kernel
theorem dX3_tally_18 : decode cX3_tally 18 = .ok (.aload_n 0, 1) := by decide +kernel
theorem dX3_tally_19 : decode cX3_tally 19 = .ok (.invokevirtual 67, 3) := by decide +kernel
theorem dX3_tally_22 : decode cX3_tally 22 = .ok (.ifCond .ne 6, 3) := by decide +kernel
theorem dX3_tally_25 : decode cX3_tally 25 = .ok (.goto 9, 3) := by decide +kernel
theorem dX3_tally_28 : decode cX3_tally 28 = .ok (.iinc 2 1, 3) := by decide +kernel
theorem dX3_tally_31 : decode cX3_tally 31 = .ok (.goto (-21), 3) := by decide +kernel
theorem dX3_tally_34 : decode cX3_tally 34 = .ok (.aload_n 0, 1) := by decide +kernel
theorem dX3_tally_35 : decode cX3_tally 35 = .ok (.getfield 30, 3) := by decide +kernel
theorem dX3_tally_38 : decode cX3_tally 38 = .ok (.iload_n 1, 1) := by decide +kernel
theorem dX3_tally_39 : decode cX3_tally 39 = .ok (.iaload, 1) := by decide +kernel
theorem dX3_tally_40 : decode cX3_tally 40 = .ok (.ireturn, 1) := by decide +kernel
set_option maxRecDepth 20000 in
theorem ggX3_tallyOnce_J7_fill_53178 : GoodIn wsX3_tallyOnce wsJ7_fill_53178 := goodIn_r _ [18] (by decide +kernel) (by decide +kernel)
theorem dX3_tallyOnce_0 : decode cX3_tallyOnce 0 = .ok (.aload_n 0, 1) := by decide +kernel
theorem dX3_tallyOnce_1 : decode cX3_tallyOnce 1 = .ok (.getfield 33, 3) := by decide +kernel
theorem dX3_tallyOnce_4 : decode cX3_tallyOnce 4 = .ok (.iconst 0, 1) := by decide +kernel
theorem dX3_tallyOnce_5 : decode cX3_tallyOnce 5 = .ok (.invokestatic 61, 3) := by decide +kernel
theorem dX3_tallyOnce_8 : decode cX3_tallyOnce 8 = .ok (.iconst 0, 1) := by decide +kernel
theorem dX3_tallyOnce_9 : decode cX3_tallyOnce 9 = .ok (.istore_n 1, 1) := by decide +kernel
theorem dX3_tallyOnce_10 : decode cX3_tallyOnce 10 = .ok (.iload_n 1, 1) := by decide +kernel
theorem dX3_tallyOnce_11 : decode cX3_tallyOnce 11 = .ok (.aload_n 0, 1) := by decide +kernel
theorem dX3_tallyOnce_12 : decode cX3_tallyOnce 12 = .ok (.getfield 43, 3) := by decide +kernel
theorem dX3_tallyOnce_15 : decode cX3_tallyOnce 15 = .ok (.if_icmp .ge 39, 3) := by decide +kernel
theorem dX3_tallyOnce_18 : decode cX3_tallyOnce 18 = .ok (.aload_n 0, 1) := by decide +kernel
theorem dX3_tallyOnce_19 : decode cX3_tallyOnce 19 = .ok (.getfield 11, 3) := by decide +kernel
theorem dX3_tallyOnce_22 : decode cX3_tallyOnce 22 = .ok (.iload_n 1, 1) := by decide +kernel
theorem dX3_tallyOnce_23 : decode cX3_tallyOnce 23 = .ok (.aaload, 1) := by decide +kernel
theorem dX3_tallyOnce_24 : decode cX3_tallyOnce 24 = .ok (.getfield 71, 3) := by decide +kernel
theorem dX3_tallyOnce_27 : decode cX3_tallyOnce 27 = .ok (.ifCond .eq 21, 3) := by decide +kernel
theorem dX3_tallyOnce_30 : decode cX3_tallyOnce 30 = .ok (.aload_n 0, 1) := by decide +kernel
theorem dX3_tallyOnce_31 : decode cX3_tallyOnce 31 = .ok (.getfield 33, 3) := by decide +kernel
theorem dX3_tallyOnce_34 : decode cX3_tallyOnce 34 = .ok (.aload_n 0, 1) := by decide +kernel
theorem dX3_tallyOnce_35 : decode cX3_tallyOnce 35 = .ok (.getfield 11, 3) := by decide +kernel
theorem dX3_tallyOnce_38 : decode cX3_tallyOnce 38 = .ok (.iload_n 1, 1) := by decide +kernel
theorem dX3_tallyOnce_39 : decode cX3_tallyOnce 39 = .ok (.aaload, 1) := by decide +kernel
theorem dX3_tallyOnce_40 : decode cX3_tallyOnce 40 = .ok (.getfield 75, 3) := by decide +kernel
theorem dX3_tallyOnce_43 : decode cX3_tallyOnce 43 = .ok (.dup2, 1) := by decide +kernel
theorem dX3_tallyOnce_44 : decode cX3_tallyOnce 44 = .ok (.iaload, 1) := by decide +kernel
theorem dX3_tallyOnce_45 : decode cX3_tallyOnce 45 = .ok (.iconst 1, 1) := by decide +kernel
theorem dX3_tallyOnce_46 : decode cX3_tallyOnce 46 = .ok (.iadd, 1) := by decide +kernel
theorem dX3_tallyOnce_47 : decode cX3_tallyOnce 47 = .ok (.iastore, 1) := by decide +kernel
theorem dX3_tallyOnce_48 : decode cX3_tallyOnce 48 = .ok (.iinc 1 1, 3) := by decide +kernel
theorem dX3_tallyOnce_51 : decode cX3_tallyOnce 51 = .ok (.goto (-41), 3) := by decide +kernel
theorem dX3_tallyOnce_54 : decode cX3_tallyOnce 54 = .ok (.iconst 0, 1) := by decide +kernel
theorem dX3_tallyOnce_55 : decode cX3_tallyOnce 55 = .ok (.istore_n 1, 1) := by decide +kernel
theorem dX3_tallyOnce_56 : decode cX3_tallyOnce 56 = .ok (.iload_n 1, 1) := by decide +kernel
theorem dX3_tallyOnce_57 : decode cX3_tallyOnce 57 = .ok (.aload_n 0, 1) := by decide +kernel
theorem dX3_tallyOnce_58 : decode cX3_tallyOnce 58 = .ok (.getfield 49, 3) := by decide +kernel
theorem dX3_tallyOnce_61 : decode cX3_tallyOnce 61 = .ok (.if_icmp .ge 50, 3) := by decide +kernel
theorem dX3_tallyOnce_64 : decode cX3_tallyOnce 64 = .ok (.aload_n 0, 1) := by decide +kernel
theorem dX3_tallyOnce_65 : decode cX3_tallyOnce 65 = .ok (.getfield 33, 3) := by decide +kernel
theorem dX3_tallyOnce_68 : decode cX3_tallyOnce 68 = .ok (.aload_n 0, 1) := by decide +kernel
theorem dX3_tallyOnce_69 : decode cX3_tallyOnce 69 = .ok (.getfield 17, 3) := by decide +kernel
theorem dX3_tallyOnce_72 : decode cX3_tallyOnce 72 = .ok (.iload_n 1, 1) := by decide +kernel
theorem dX3_tallyOnce_73 : decode cX3_tallyOnce 73 = .ok (.iaload, 1) := by decide +kernel
theorem dX3_tallyOnce_74 : decode cX3_tallyOnce 74 = .ok (.iaload, 1) := by decide +kernel
theorem dX3_tallyOnce_75 : decode cX3_tallyOnce 75 = .ok (.aload_n 0, 1) := by decide +kernel
theorem dX3_tallyOnce_76 : decode cX3_tallyOnce 76 = .ok (.getfield 30, 3) := by decide +kernel
theorem dX3_tallyOnce_79 : decode cX3_tallyOnce 79 = .ok (.aload_n 0, 1) := by decide +kernel
theorem dX3_tallyOnce_80 : decode cX3_tallyOnce 80 = .ok (.getfield 21, 3) := by decide +kernel
theorem dX3_tallyOnce_83 : decode cX3_tallyOnce 83 = .ok (.iload_n 1, 1) := by decide +kernel
theorem dX3_tallyOnce_84 : decode cX3_tallyOnce 84 = .ok (.iaload, 1) := by decide +kernel
theorem dX3_tallyOnce_85 : decode cX3_tallyOnce 85 = .ok (.iaload, 1) := by decide +kernel
theorem dX3_tallyOnce_86 : decode cX3_tallyOnce 86 = .ok (.iadd, 1) := by decide +kernel
theorem dX3_tallyOnce_87 : decode cX3_tallyOnce 87 = .ok (.istore_n 2, 1) := by decide +kernel
theorem dX3_tallyOnce_88 : decode cX3_tallyOnce 88 = .ok (.aload_n 0, 1) := by decide +kernel
theorem dX3_tallyOnce_89 : decode cX3_tallyOnce 89 = .ok (.getfield 33, 3) := by decide +kernel
theorem dX3_tallyOnce_92 : decode cX3_tallyOnce 92 = .ok (.aload_n 0, 1) := by decide +kernel
theorem dX3_tallyOnce_93 : decode cX3_tallyOnce 93 = .ok (.getfield 17, 3) := by decide +kernel
theorem dX3_tallyOnce_96 : decode cX3_tallyOnce 96 = .ok (.iload_n 1, 1) := by decide +kernel
theorem dX3_tallyOnce_97 : decode cX3_tallyOnce 97 = .ok (.iaload, 1) := by decide +kernel
theorem dX3_tallyOnce_98 : decode cX3_tallyOnce 98 = .ok (.iload_n 2, 1) := by decide +kernel
theorem dX3_tallyOnce_99 : decode cX3_tallyOnce 99 = .ok (.bipush 101, 2) := by decide +kernel
theorem dX3_tallyOnce_101 : decode cX3_tallyOnce 101 = .ok (.invokestatic 78, 3) := by decide +kernel
theorem dX3_tallyOnce_104 : decode cX3_tallyOnce 104 = .ok (.iastore, 1) := by decide +kernel
theorem dX3_tallyOnce_105 : decode cX3_tallyOnce 105 = .ok (.iinc 1 1, 3) := by decide +kernel
theorem dX3_tallyOnce_108 : decode cX3_tallyOnce 108 = .ok (.goto (-52), 3) := by decide +kernel
theorem dX3_tallyOnce_111 : decode cX3_tallyOnce 111 = .ok (.iconst 0, 1) := by decide +kernel
theorem dX3_tallyOnce_112 : decode cX3_tallyOnce 112 = .ok (.istore_n 1, 1) := by decide +kernel
theorem dX3_tallyOnce_113 : decode cX3_tallyOnce 113 = .ok (.iconst 0, 1) := by decide +kernel
theorem dX3_tallyOnce_114 : decode cX3_tallyOnce 114 = .ok (.istore_n 2, 1) := by decide +kernel
theorem dX3_tallyOnce_115 : decode cX3_tallyOnce 115 = .ok (.iload_n 2, 1) := by decide +kernel
theorem dX3_tallyOnce_116 : decode cX3_tallyOnce 116 = .ok (.aload_n 0, 1) := by decide +kernel
theorem dX3_tallyOnce_117 : decode cX3_tallyOnce 117 = .ok (.getfield 40, 3) := by decide +kernel
theorem dX3_tallyOnce_120 : decode cX3_tallyOnce 120 = .ok (.if_icmp .ge 46, 3) := by decide +kernel
theorem dX3_tallyOnce_123 : decode cX3_tallyOnce 123 = .ok (.iload_n 1, 1) := by decide +kernel
theorem dX3_tallyOnce_124 : decode cX3_tallyOnce 124 = .ok (.ifCond .ne 18, 3) := by decide +kernel
theorem dX3_tallyOnce_127 : decode cX3_tallyOnce 127 = .ok (.aload_n 0, 1) := by decide +kernel
theorem dX3_tallyOnce_128 : decode cX3_tallyOnce 128 = .ok (.getfield 30, 3) := by decide +kernel
theorem dX3_tallyOnce_131 : decode cX3_tallyOnce 131 = .ok (.iload_n 2, 1) := by decide +kernel
theorem dX3_tallyOnce_132 : decode cX3_tallyOnce 132 = .ok (.iaload, 1) := by decide +kernel
theorem dX3_tallyOnce_133 : decode cX3_tallyOnce 133 = .ok (.aload_n 0, 1) := by decide +kernel
theorem dX3_tallyOnce_134 : decode cX3_tallyOnce 134 = .ok (.getfield 33, 3) := by decide +kernel
theorem dX3_tallyOnce_137 : decode cX3_tallyOnce 137 = .ok (.iload_n 2, 1) := by decide +kernel
theorem dX3_tallyOnce_138 : decode cX3_tallyOnce 138 = .ok (.iaload, 1) := by decide +kernel
theorem dX3_tallyOnce_139 : decode cX3_tallyOnce 139 = .ok (.if_icmp .eq 7, 3) := by decide +kernel
theorem dX3_tallyOnce_142 : decode cX3_tallyOnce 142 = .ok (.iconst 1, 1) := by decide +kernel
theorem dX3_tallyOnce_143 : decode cX3_tallyOnce 143 = .ok (.goto 4, 3) := by decide +kernel
theorem dX3_tallyOnce_146 : decode cX3_tallyOnce 146 = .ok (.iconst 0, 1) := by decide +kernel
theorem dX3_tallyOnce_147 : decode cX3_tallyOnce 147 = .ok (.istore_n 1, 1) := by decide +kernel
theorem dX3_tallyOnce_148 : decode cX3_tallyOnce 148 = .ok (.aload_n 0, 1) := by decide +kernel
theorem dX3_tallyOnce_149 : decode cX3_tallyOnce 149 = .ok (.getfield 30, 3) := by decide +kernel
theorem dX3_tallyOnce_152 : decode cX3_tallyOnce 152 = .ok (.iload_n 2, 1) := by decide +kernel
theorem dX3_tallyOnce_153 : decode cX3_tallyOnce 153 = .ok (.aload_n 0, 1) := by decide +kernel
theorem dX3_tallyOnce_154 : decode cX3_tallyOnce 154 = .ok (.getfield 33, 3) := by decide +kernel
theorem dX3_tallyOnce_157 : decode cX3_tallyOnce 157 = .ok (.iload_n 2, 1) := by decide +kernel
theorem dX3_tallyOnce_158 : decode cX3_tallyOnce 158 = .ok (.iaload, 1) := by decide +kernel
theorem dX3_tallyOnce_159 : decode cX3_tallyOnce 159 = .ok (.iastore, 1) := by decide +kernel
theorem dX3_tallyOnce_160 : decode cX3_tallyOnce 160 = .ok (.iinc 2 1, 3) := by decide +kernel
theorem dX3_tallyOnce_163 : decode cX3_tallyOnce 163 = .ok (.goto (-48), 3) := by decide +kernel
theorem dX3_tallyOnce_166 : decode cX3_tallyOnce 166 = .ok (.iload_n 1, 1) := by decide +kernel
theorem dX3_tallyOnce_167 : decode cX3_tallyOnce 167 = .ok (.ireturn, 1) := by decide +kernel
theorem dJ7_fill_53178_0 : decode cJ7_fill_53178 0 = .ok (.iconst 0, 1) := by decide +kernel
theorem dJ7_fill_53178_1 : decode cJ7_fill_53178 1 = .ok (.istore_n 2, 1) := by decide +kernel
theorem dJ7_fill_53178_2 : decode cJ7_fill_53178 2 = .ok (.aload_n 0, 1) := by decide +kernel
theorem dJ7_fill_53178_3 : decode cJ7_fill_53178 3 = .ok (.arraylength, 1) := by decide +kernel
theorem dJ7_fill_53178_4 : decode cJ7_fill_53178 4 = .ok (.istore_n 3, 1) := by decide +kernel
theorem dJ7_fill_53178_5 : decode cJ7_fill_53178 5 = .ok (.iload_n 2, 1) := by decide +kernel
theorem dJ7_fill_53178_6 : decode cJ7_fill_53178 6 = .ok (.iload_n 3, 1) := by decide +kernel
theorem dJ7_fill_53178_7 : decode cJ7_fill_53178 7 = .ok (.if_icmp .ge 13, 3) := by decide +kernel
theorem dJ7_fill_53178_10 : decode cJ7_fill_53178 10 = .ok (.aload_n 0, 1) := by decide +kernel
theorem dJ7_fill_53178_11 : decode cJ7_fill_53178 11 = .ok (.iload_n 2, 1) := by decide +kernel
theorem dJ7_fill_53178_12 : decode cJ7_fill_53178 12 = .ok (.iload_n 1, 1) := by decide +kernel
theorem dJ7_fill_53178_13 : decode cJ7_fill_53178 13 = .ok (.iastore, 1) := by decide +kernel
theorem dJ7_fill_53178_14 : decode cJ7_fill_53178 14 = .ok (.iinc 2 1, 3) := by decide +kernel
theorem dJ7_fill_53178_17 : decode cJ7_fill_53178 17 = .ok (.goto (-12), 3) := by decide +kernel
theorem dJ7_fill_53178_20 : decode cJ7_fill_53178 20 = .ok (.return_, 1) := by decide +kernel

abbrev mJ7_fill_53178 : sv_M := (cJ7_fill_53178, 4, yJ7_fill_53178, wsJ7_fill_53178, none, { frames := 0, cells := 0, slots := 0, locals := 0 }, [])
set_option maxHeartbeats 4000000 in
set_option maxRecDepth 100000 in
theorem l_fill (G : sv_G) (h : sv_h) (z a N : Nat) (x : Int32) (hN : N < 2 ^ 31) : ∀ (c i : Nat) (hi : sv_h) (f : Nat → Int32), i + c = N → ab_I G hi a N f → (∀ j, j < i → f j = x) → (∀ w, w ≠ a → hi w = h w) → V G mJ7_fill_53178 (sv_MQ G mJ7_fill_53178 (fun v h1 z1 => v = none ∧ z1 = z ∧ (∃ g, ab_I G h1 a N g ∧ ∀ j, j < N → g j = x) ∧ ∀ w, w ≠ a → h1 w = h w)) 5 [(3, .int (nI N)), (2, .int (nI i)), (0, .ref a), (1, .int x)] [] hi z 0 0 := by
  intro c
  induction c with
  | zero =>
    intro i hi f hic hf hj2 hfr
    refine v_iload_n dJ7_fill_53178_5 rfl 1 rfl ?_
    refine v_iload_n dJ7_fill_53178_6 rfl 0 rfl ?_
    refine v_icmp_ge (tgt := 20) dJ7_fill_53178_7 (by decide) (fun c_7 => ?_) (fun c_7 => ?_)
    · exact v_ret rfl dJ7_fill_53178_20 (Nat.le_of_ble_eq_true rfl) (Nat.le_of_ble_eq_true rfl) ⟨rfl, rfl, ⟨f, hf, fun j hj => hj2 j (by omega)⟩, hfr⟩
    · exact absurd (show nI N ≤ nI i from nI_le (by omega) (by omega)) c_7
  | succ c ih =>
    intro i hi f hic hf hj2 hfr
    refine v_iload_n dJ7_fill_53178_5 rfl 1 rfl ?_
    refine v_iload_n dJ7_fill_53178_6 rfl 0 rfl ?_
    refine v_icmp_ge (tgt := 20) dJ7_fill_53178_7 (by decide) (fun c_7 => ?_) (fun c_7 => ?_)
    · exact absurd c_7 (nI_ge (by omega) (by omega))
    · refine v_aload_n dJ7_fill_53178_10 rfl 2 rfl ?_
      refine v_iload_n dJ7_fill_53178_11 rfl 1 rfl ?_
      refine v_iload_n dJ7_fill_53178_12 rfl 3 rfl ?_
      refine v_iast dJ7_fill_53178_13 (by repeat (first | (with_reducible refine sv_us.trans ?_; exact rfl) | with_reducible assumption | with_reducible refine (sv_un (by omega)).trans ?_)) (vp_in_nI (by omega) hN) ?_
      refine v_iinc (j := 1) (L' := [(2, _), (3, _), (0, _), (1, _)]) (v := nI (i + 1)) dJ7_fill_53178_14 rfl (nI_1 _) (Nat.le_of_ble_eq_true rfl) rfl ?_
      refine v_goto (tgt := 5) dJ7_fill_53178_17 (by decide) ?_
      refine v_sub (L' := [(3, _), (2, _), (0, _), (1, _)]) [1, 0, 2, 3] rfl ?_
      rw [nI_clamp (n := i) (by omega)]
      refine ih (i + 1) _ _ (by omega) sv_us (fun j hj => ?_) (fun w q => (sv_un q).trans (hfr w q))
      by_cases e : j = i
      · rw [e]; simp [upd]
      · simp only [upd, if_neg e]; exact hj2 j (by omega)

set_option maxHeartbeats 4000000 in
set_option maxRecDepth 100000 in
theorem c_fill (G : sv_G) (h : sv_h) (z a N : Nat) (x : Int32) (f : Nat → Int32) (hN : N < 2 ^ 31) (hf : ab_I G h a N f) : CT G mJ7_fill_53178 [.ref a, .int x] h z (fun v h1 z1 => v = none ∧ z1 = z ∧ (∃ g, ab_I G h1 a N g ∧ ∀ j, j < N → g j = x) ∧ ∀ w, w ≠ a → h1 w = h w) := by
  refine CT.of (by decide +kernel) rfl rfl (Nat.le_of_ble_eq_true rfl) ?_
  refine v_iconst (v := 0) dJ7_fill_53178_0 (by decide) ?_
  refine v_istore_n (L' := [(2, _), (0, _), (1, _)]) dJ7_fill_53178_1 rfl (Nat.le_of_ble_eq_true rfl) rfl ?_
  refine v_aload_n dJ7_fill_53178_2 rfl 1 rfl ?_
  refine v_alen (t := 0) dJ7_fill_53178_3 (fun _ => rfl) (by repeat (first | (with_reducible refine sv_us.trans ?_; exact rfl) | with_reducible assumption | with_reducible refine (sv_un (by omega)).trans ?_)) rfl ?_
  refine v_istore_n (L' := [(3, _), (2, _), (0, _), (1, _)]) dJ7_fill_53178_4 rfl (Nat.le_of_ble_eq_true rfl) rfl ?_
  refine v_sub (L' := [(3, _), (2, _), (0, _), (1, _)]) [0, 1, 2, 3] rfl ?_
  exact l_fill G h z a N x hN N 0 h f (by omega) hf (fun j hj => absurd hj (Nat.not_lt_zero j)) (fun _ _ => rfl)

abbrev mX3_tallyOnce : sv_M := (cX3_tallyOnce, 3, yX3_tallyOnce, wsX3_tallyOnce, (some .boolean), { frames := 2, cells := 0, slots := 0, locals := 60 }, [])
set_option maxHeartbeats 4000000 in
set_option maxRecDepth 100000 in
theorem l_tally1 (G : sv_G) (P : sv_P) (h : sv_h) (z b nc np pl : Nat) (k : Int32) (R : Nat → Bool) (hm p3 p4 pa : Nat → Nat) (fq : Nat → Option Nat) (fh fg : Nat → Int32) (hly : h (b + 1) = some (.inr (1, [.int k, .int (nI nc), .ref (b + 2), .int (nI np), .ref (b + 3), .ref (b + 4), .ref (b + 5), .int (nI pl), .ref (b + 6), .ref (b + 7)]))) (hq2 : ab_Q G h (b + 2) 4 64 fq) (hqa : ∀ p, p < np → fq p = some (pa p) ∧ hm p < nc ∧ pa p ≠ b + 6 ∧ pa p ≠ b + 7 ∧ ∃ (l0 n0 vo ar : Int32) (x1 x2 x3 x4 : Nat), h (pa p) = some (.inr (3, [.int (nI (hm p)), .int l0, .ref x1, .ref x2, .int n0, .int vo, .int (if R p = true then 1 else 0), .int ar, .ref x3, .ref x4]))) (hh1 : ab_I G h (b + 3) 32 fh) (hh2 : ab_I G h (b + 4) 32 fg) (hnc : nc ≤ 16) (hnp : np ≤ 64) (hpl : pl ≤ 32) (hpp : ∀ i, i < pl → fh i = nI (p3 i) ∧ fg i = nI (p4 i) ∧ p3 i < nc ∧ p4 i < nc) (hk : ∀ (hi : sv_h) (g : Nat → Int32) (w1 : Int32), ab_I G hi (b + 7) 16 g → (∀ c, c < 16 → g c = nI (oc_w R hm c np)) → (∀ w, w ≠ b + 7 → hi w = h w) → V G mX3_tallyOnce P 54 [(1, .int w1), (0, .ref (b + 1))] [] hi z 0 0) : ∀ (c i : Nat) (hi : sv_h) (g : Nat → Int32), i + c = np → ab_I G hi (b + 7) 16 g → (∀ c, c < 16 → g c = nI (oc_w R hm c i)) → (∀ w, w ≠ b + 7 → hi w = h w) → V G mX3_tallyOnce P 10 [(1, .int (nI i)), (0, .ref (b + 1))] [] hi z 0 0 := by
  intro c
  induction c with
  | zero =>
    intro i hi g hic hg hgc hfr
    refine v_iload_n dX3_tallyOnce_10 rfl 0 rfl ?_
    refine v_aload_n dX3_tallyOnce_11 rfl 1 rfl ?_
    refine v_getf 3 (ci := 1) (C := RX3) (T := TX3) (N := 10) rfl iwX3_tallyOnce_X3 (Nat.le_of_ble_eq_true rfl) (by decide +kernel) dX3_tallyOnce_12 (by first | with_reducible assumption | exact (hfr _ (by omega)).trans hly | exact (hfr _ (by omega)).trans hq2 | exact (hfr _ (by omega)).trans hh1 | exact (hfr _ (by omega)).trans hh2) rfl ?_
    refine v_icmp_ge (tgt := 54) dX3_tallyOnce_15 (by decide) (fun c_15 => ?_) (fun c_15 => ?_)
    · (obtain rfl : i = np := by omega)
      exact hk _ g _ hg hgc hfr
    · exact absurd (show nI np ≤ nI i from nI_le (by omega) (by omega)) c_15
  | succ c ih =>
    intro i hi g hic hg hgc hfr
    obtain ⟨qx1, qx2, qx3, qx4, l0, n0, vo, ar, x1, x2, x3, x4, qp⟩ := hqa i (by omega)
    have qx := And.intro qx1 (And.intro qx2 (And.intro qx4 qx3))
    refine v_iload_n dX3_tallyOnce_10 rfl 0 rfl ?_
    refine v_aload_n dX3_tallyOnce_11 rfl 1 rfl ?_
    refine v_getf 3 (ci := 1) (C := RX3) (T := TX3) (N := 10) rfl iwX3_tallyOnce_X3 (Nat.le_of_ble_eq_true rfl) (by decide +kernel) dX3_tallyOnce_12 (by first | exact (hfr _ qx.2.2.1).trans qp | with_reducible assumption | exact (hfr _ (by omega)).trans hly | exact (hfr _ (by omega)).trans hq2 | exact (hfr _ (by omega)).trans hh1 | exact (hfr _ (by omega)).trans hh2) rfl ?_
    refine v_icmp_ge (tgt := 54) dX3_tallyOnce_15 (by decide) (fun c_15 => ?_) (fun c_15 => ?_)
    · exact absurd c_15 (nI_ge (by omega) (by omega))
    · refine v_aload_n dX3_tallyOnce_18 rfl 1 rfl ?_
      refine v_getf 2 (ci := 1) (C := RX3) (T := TX3) (N := 10) rfl iwX3_tallyOnce_X3 (Nat.le_of_ble_eq_true rfl) (by decide +kernel) dX3_tallyOnce_19 (by first | exact (hfr _ qx.2.2.1).trans qp | with_reducible assumption | exact (hfr _ (by omega)).trans hly | exact (hfr _ (by omega)).trans hq2 | exact (hfr _ (by omega)).trans hh1 | exact (hfr _ (by omega)).trans hh2) rfl ?_
      refine v_iload_n dX3_tallyOnce_22 rfl 0 rfl ?_
      refine v_aaldS (t := 4) (q := pa i) dX3_tallyOnce_23 (fun _ => rfl) (by first | exact (hfr _ qx.2.2.1).trans qp | with_reducible assumption | exact (hfr _ (by omega)).trans hly | exact (hfr _ (by omega)).trans hq2 | exact (hfr _ (by omega)).trans hh1 | exact (hfr _ (by omega)).trans hh2) (vp_in_nI (by omega) (by omega)) (by rw [nI_clamp (by omega)]; exact qx.1) ?_
      refine v_getf 6 (ci := 3) (C := RX5) (T := TX5) (N := 10) rfl iwX3_tallyOnce_X5 (Nat.le_of_ble_eq_true rfl) (by decide +kernel) dX3_tallyOnce_24 (by first | exact (hfr _ qx.2.2.1).trans qp | with_reducible assumption | exact (hfr _ (by omega)).trans hly | exact (hfr _ (by omega)).trans hq2 | exact (hfr _ (by omega)).trans hh1 | exact (hfr _ (by omega)).trans hh2) rfl ?_
      refine v_if_eq (tgt := 48) dX3_tallyOnce_27 (by decide) (fun c_27 => ?_) (fun c_27 => ?_)
      · refine v_iinc (j := 0) (L' := [(1, _), (0, _)]) (v := nI (i + 1)) dX3_tallyOnce_48 rfl (nI_1 _) (Nat.le_of_ble_eq_true rfl) rfl ?_
        refine v_goto (tgt := 10) dX3_tallyOnce_51 (by decide) ?_
        refine v_sub (L' := [(1, _), (0, _)]) [0, 1] rfl ?_
        first
        | (have c9 : ¬ R i = true := sv_ift c_27
           exact ih (i + 1) hi g (by omega) hg (fun c hc => by rw [oc_w0 (fun q => c9 q.1)]; exact hgc c hc) hfr)
        | (have c9 : R i = true := sv_ifn c_27
           rw [nI_clamp (n := hm i) (by omega)]
           refine ih (i + 1) _ _ (by omega) sv_us (fun c hc => ?_) (fun w q => (sv_un q).trans (hfr w q))
           by_cases e : c = hm i
           · rw [e, oc_w1 ⟨c9, rfl⟩, ← nI_1]; simp [upd]
           · rw [oc_w0 (fun q => e q.2.symm)]; simp only [upd, if_neg e]; exact hgc c hc)
      · refine v_aload_n dX3_tallyOnce_30 rfl 1 rfl ?_
        refine v_getf 9 (ci := 1) (C := RX3) (T := TX3) (N := 10) rfl iwX3_tallyOnce_X3 (Nat.le_of_ble_eq_true rfl) (by decide +kernel) dX3_tallyOnce_31 (by first | exact (hfr _ qx.2.2.1).trans qp | with_reducible assumption | exact (hfr _ (by omega)).trans hly | exact (hfr _ (by omega)).trans hq2 | exact (hfr _ (by omega)).trans hh1 | exact (hfr _ (by omega)).trans hh2) rfl ?_
        refine v_aload_n dX3_tallyOnce_34 rfl 1 rfl ?_
        refine v_getf 2 (ci := 1) (C := RX3) (T := TX3) (N := 10) rfl iwX3_tallyOnce_X3 (Nat.le_of_ble_eq_true rfl) (by decide +kernel) dX3_tallyOnce_35 (by first | exact (hfr _ qx.2.2.1).trans qp | with_reducible assumption | exact (hfr _ (by omega)).trans hly | exact (hfr _ (by omega)).trans hq2 | exact (hfr _ (by omega)).trans hh1 | exact (hfr _ (by omega)).trans hh2) rfl ?_
        refine v_iload_n dX3_tallyOnce_38 rfl 0 rfl ?_
        refine v_aaldS (t := 4) (q := pa i) dX3_tallyOnce_39 (fun _ => rfl) (by first | exact (hfr _ qx.2.2.1).trans qp | with_reducible assumption | exact (hfr _ (by omega)).trans hly | exact (hfr _ (by omega)).trans hq2 | exact (hfr _ (by omega)).trans hh1 | exact (hfr _ (by omega)).trans hh2) (vp_in_nI (by omega) (by omega)) (by rw [nI_clamp (by omega)]; exact qx.1) ?_
        refine v_getf 0 (ci := 3) (C := RX5) (T := TX5) (N := 10) rfl iwX3_tallyOnce_X5 (Nat.le_of_ble_eq_true rfl) (by decide +kernel) dX3_tallyOnce_40 (by first | exact (hfr _ qx.2.2.1).trans qp | with_reducible assumption | exact (hfr _ (by omega)).trans hly | exact (hfr _ (by omega)).trans hq2 | exact (hfr _ (by omega)).trans hh1 | exact (hfr _ (by omega)).trans hh2) rfl ?_
        refine v_dup2_11 dX3_tallyOnce_43 rfl rfl ?_
        refine v_ialdS (v := nI (oc_w R hm (hm i) i)) dX3_tallyOnce_44 (by first | exact (hfr _ qx.2.2.1).trans qp | with_reducible assumption | exact (hfr _ (by omega)).trans hly | exact (hfr _ (by omega)).trans hq2 | exact (hfr _ (by omega)).trans hh1 | exact (hfr _ (by omega)).trans hh2) (vp_in_nI (by omega) (by omega)) (by rw [nI_clamp (by omega)]; exact hgc _ (by omega)) ?_
        refine v_iconst (v := 1) dX3_tallyOnce_45 (by decide) ?_
        refine v_iadd dX3_tallyOnce_46 ?_
        refine v_iast dX3_tallyOnce_47 (by first | exact (hfr _ qx.2.2.1).trans qp | with_reducible assumption | exact (hfr _ (by omega)).trans hly | exact (hfr _ (by omega)).trans hq2 | exact (hfr _ (by omega)).trans hh1 | exact (hfr _ (by omega)).trans hh2) (vp_in_nI (by omega) (by omega)) ?_
        refine v_iinc (j := 0) (L' := [(1, _), (0, _)]) (v := nI (i + 1)) dX3_tallyOnce_48 rfl (nI_1 _) (Nat.le_of_ble_eq_true rfl) rfl ?_
        refine v_goto (tgt := 10) dX3_tallyOnce_51 (by decide) ?_
        refine v_sub (L' := [(1, _), (0, _)]) [0, 1] rfl ?_
        first
        | (have c9 : ¬ R i = true := sv_ift c_27
           exact ih (i + 1) hi g (by omega) hg (fun c hc => by rw [oc_w0 (fun q => c9 q.1)]; exact hgc c hc) hfr)
        | (have c9 : R i = true := sv_ifn c_27
           rw [nI_clamp (n := hm i) (by omega)]
           refine ih (i + 1) _ _ (by omega) sv_us (fun c hc => ?_) (fun w q => (sv_un q).trans (hfr w q))
           by_cases e : c = hm i
           · rw [e, oc_w1 ⟨c9, rfl⟩, ← nI_1]; simp [upd]
           · rw [oc_w0 (fun q => e q.2.symm)]; simp only [upd, if_neg e]; exact hgc c hc)

set_option maxHeartbeats 4000000 in
set_option maxRecDepth 100000 in
theorem l_tally2 (G : sv_G) (P : sv_P) (h : sv_h) (z b nc np pl : Nat) (k : Int32) (R : Nat → Bool) (hm p3 p4 pa : Nat → Nat) (fq : Nat → Option Nat) (fh fg : Nat → Int32) (hly : h (b + 1) = some (.inr (1, [.int k, .int (nI nc), .ref (b + 2), .int (nI np), .ref (b + 3), .ref (b + 4), .ref (b + 5), .int (nI pl), .ref (b + 6), .ref (b + 7)]))) (hq2 : ab_Q G h (b + 2) 4 64 fq) (hqa : ∀ p, p < np → fq p = some (pa p) ∧ hm p < nc ∧ pa p ≠ b + 6 ∧ pa p ≠ b + 7 ∧ ∃ (l0 n0 vo ar : Int32) (x1 x2 x3 x4 : Nat), h (pa p) = some (.inr (3, [.int (nI (hm p)), .int l0, .ref x1, .ref x2, .int n0, .int vo, .int (if R p = true then 1 else 0), .int ar, .ref x3, .ref x4]))) (hh1 : ab_I G h (b + 3) 32 fh) (hh2 : ab_I G h (b + 4) 32 fg) (hnc : nc ≤ 16) (hnp : np ≤ 64) (hpl : pl ≤ 32) (hpp : ∀ i, i < pl → fh i = nI (p3 i) ∧ fg i = nI (p4 i) ∧ p3 i < nc ∧ p4 i < nc) (he : Nat → Int32) (hhe : ab_I G h (b + 6) 16 he) (r : Nat) (hev : ∀ c, c < nc → he c = nI (min 101 (oc_n np pl R hm p3 p4 r c))) (hk : ∀ (hi : sv_h) (g : Nat → Int32) (w1 : Int32), ab_I G hi (b + 7) 16 g → (∀ c, c < 16 → g c = nI (min 101 (oc_w R hm c np + oc_s p3 p4 (oc_n np pl R hm p3 p4 r) c pl))) → (∀ w, w ≠ b + 7 → hi w = h w) → V G mX3_tallyOnce P 111 [(1, .int w1), (0, .ref (b + 1))] [] hi z 0 0) : ∀ (c i : Nat) (hi : sv_h) (g : Nat → Int32), i + c = pl → ab_I G hi (b + 7) 16 g → (∀ c, c < 16 → g c = nI (min 101 (oc_w R hm c np + oc_s p3 p4 (oc_n np pl R hm p3 p4 r) c i))) → (∀ w, w ≠ b + 7 → hi w = h w) → V G mX3_tallyOnce P 56 [(1, .int (nI i)), (0, .ref (b + 1))] [] hi z 0 0 := by
  intro c
  induction c with
  | zero =>
    intro i hi g hic hg hgc hfr
    refine v_iload_n dX3_tallyOnce_56 rfl 0 rfl ?_
    refine v_aload_n dX3_tallyOnce_57 rfl 1 rfl ?_
    refine v_getf 7 (ci := 1) (C := RX3) (T := TX3) (N := 10) rfl iwX3_tallyOnce_X3 (Nat.le_of_ble_eq_true rfl) (by decide +kernel) dX3_tallyOnce_58 (by first | with_reducible assumption | exact (hfr _ (by omega)).trans hly | exact (hfr _ (by omega)).trans hq2 | exact (hfr _ (by omega)).trans hh1 | exact (hfr _ (by omega)).trans hh2 | exact (hfr _ (by omega)).trans hhe) rfl ?_
    refine v_icmp_ge (tgt := 111) dX3_tallyOnce_61 (by decide) (fun c_61 => ?_) (fun c_61 => ?_)
    · (obtain rfl : i = pl := by omega)
      exact hk _ g _ hg hgc hfr
    · exact absurd (show nI pl ≤ nI i from nI_le (by omega) (by omega)) c_61
  | succ c ih =>
    intro i hi g hic hg hgc hfr
    refine v_iload_n dX3_tallyOnce_56 rfl 0 rfl ?_
    refine v_aload_n dX3_tallyOnce_57 rfl 1 rfl ?_
    refine v_getf 7 (ci := 1) (C := RX3) (T := TX3) (N := 10) rfl iwX3_tallyOnce_X3 (Nat.le_of_ble_eq_true rfl) (by decide +kernel) dX3_tallyOnce_58 (by first | with_reducible assumption | exact (hfr _ (by omega)).trans hly | exact (hfr _ (by omega)).trans hq2 | exact (hfr _ (by omega)).trans hh1 | exact (hfr _ (by omega)).trans hh2 | exact (hfr _ (by omega)).trans hhe) rfl ?_
    refine v_icmp_ge (tgt := 111) dX3_tallyOnce_61 (by decide) (fun c_61 => ?_) (fun c_61 => ?_)
    · exact absurd c_61 (nI_ge (by omega) (by omega))
    · refine v_aload_n dX3_tallyOnce_64 rfl 1 rfl ?_
      refine v_getf 9 (ci := 1) (C := RX3) (T := TX3) (N := 10) rfl iwX3_tallyOnce_X3 (Nat.le_of_ble_eq_true rfl) (by decide +kernel) dX3_tallyOnce_65 (by first | with_reducible assumption | exact (hfr _ (by omega)).trans hly | exact (hfr _ (by omega)).trans hq2 | exact (hfr _ (by omega)).trans hh1 | exact (hfr _ (by omega)).trans hh2 | exact (hfr _ (by omega)).trans hhe) rfl ?_
      refine v_aload_n dX3_tallyOnce_68 rfl 1 rfl ?_
      refine v_getf 4 (ci := 1) (C := RX3) (T := TX3) (N := 10) rfl iwX3_tallyOnce_X3 (Nat.le_of_ble_eq_true rfl) (by decide +kernel) dX3_tallyOnce_69 (by first | with_reducible assumption | exact (hfr _ (by omega)).trans hly | exact (hfr _ (by omega)).trans hq2 | exact (hfr _ (by omega)).trans hh1 | exact (hfr _ (by omega)).trans hh2 | exact (hfr _ (by omega)).trans hhe) rfl ?_
      refine v_iload_n dX3_tallyOnce_72 rfl 0 rfl ?_
      refine v_ialdS (v := nI (p3 i)) dX3_tallyOnce_73 (by first | with_reducible assumption | exact (hfr _ (by omega)).trans hly | exact (hfr _ (by omega)).trans hq2 | exact (hfr _ (by omega)).trans hh1 | exact (hfr _ (by omega)).trans hh2 | exact (hfr _ (by omega)).trans hhe) (vp_in_nI (by omega) (by omega)) (by rw [nI_clamp (by omega)]; exact (hpp i (by omega)).1) ?_
      refine v_ialdS (v := nI (min 101 (oc_w R hm (p3 i) np + oc_s p3 p4 (oc_n np pl R hm p3 p4 r) (p3 i) i))) dX3_tallyOnce_74 (by first | with_reducible assumption | exact (hfr _ (by omega)).trans hly | exact (hfr _ (by omega)).trans hq2 | exact (hfr _ (by omega)).trans hh1 | exact (hfr _ (by omega)).trans hh2 | exact (hfr _ (by omega)).trans hhe) (vp_in_nI (by have := hpp i (by omega); omega) (by omega)) (by rw [nI_clamp (by have := hpp i (by omega); omega)]; exact hgc _ (by have := hpp i (by omega); omega)) ?_
      refine v_aload_n dX3_tallyOnce_75 rfl 1 rfl ?_
      refine v_getf 8 (ci := 1) (C := RX3) (T := TX3) (N := 10) rfl iwX3_tallyOnce_X3 (Nat.le_of_ble_eq_true rfl) (by decide +kernel) dX3_tallyOnce_76 (by first | with_reducible assumption | exact (hfr _ (by omega)).trans hly | exact (hfr _ (by omega)).trans hq2 | exact (hfr _ (by omega)).trans hh1 | exact (hfr _ (by omega)).trans hh2 | exact (hfr _ (by omega)).trans hhe) rfl ?_
      refine v_aload_n dX3_tallyOnce_79 rfl 1 rfl ?_
      refine v_getf 5 (ci := 1) (C := RX3) (T := TX3) (N := 10) rfl iwX3_tallyOnce_X3 (Nat.le_of_ble_eq_true rfl) (by decide +kernel) dX3_tallyOnce_80 (by first | with_reducible assumption | exact (hfr _ (by omega)).trans hly | exact (hfr _ (by omega)).trans hq2 | exact (hfr _ (by omega)).trans hh1 | exact (hfr _ (by omega)).trans hh2 | exact (hfr _ (by omega)).trans hhe) rfl ?_
      refine v_iload_n dX3_tallyOnce_83 rfl 0 rfl ?_
      refine v_ialdS (v := nI (p4 i)) dX3_tallyOnce_84 (by first | with_reducible assumption | exact (hfr _ (by omega)).trans hly | exact (hfr _ (by omega)).trans hq2 | exact (hfr _ (by omega)).trans hh1 | exact (hfr _ (by omega)).trans hh2 | exact (hfr _ (by omega)).trans hhe) (vp_in_nI (by omega) (by omega)) (by rw [nI_clamp (by omega)]; exact (hpp i (by omega)).2.1) ?_
      refine v_ialdS (v := nI (min 101 (oc_n np pl R hm p3 p4 r (p4 i)))) dX3_tallyOnce_85 (by first | with_reducible assumption | exact (hfr _ (by omega)).trans hly | exact (hfr _ (by omega)).trans hq2 | exact (hfr _ (by omega)).trans hh1 | exact (hfr _ (by omega)).trans hh2 | exact (hfr _ (by omega)).trans hhe) (vp_in_nI (by have := hpp i (by omega); omega) (by omega)) (by rw [nI_clamp (by have := hpp i (by omega); omega)]; exact hev _ (hpp i (by omega)).2.2.2) ?_
      refine v_iadd dX3_tallyOnce_86 ?_
      refine v_istore_n (L' := [(2, _), (1, _), (0, _)]) dX3_tallyOnce_87 rfl (Nat.le_of_ble_eq_true rfl) rfl ?_
      refine v_aload_n dX3_tallyOnce_88 rfl 2 rfl ?_
      refine v_getf 9 (ci := 1) (C := RX3) (T := TX3) (N := 10) rfl iwX3_tallyOnce_X3 (Nat.le_of_ble_eq_true rfl) (by decide +kernel) dX3_tallyOnce_89 (by first | with_reducible assumption | exact (hfr _ (by omega)).trans hly | exact (hfr _ (by omega)).trans hq2 | exact (hfr _ (by omega)).trans hh1 | exact (hfr _ (by omega)).trans hh2 | exact (hfr _ (by omega)).trans hhe) rfl ?_
      refine v_aload_n dX3_tallyOnce_92 rfl 2 rfl ?_
      refine v_getf 4 (ci := 1) (C := RX3) (T := TX3) (N := 10) rfl iwX3_tallyOnce_X3 (Nat.le_of_ble_eq_true rfl) (by decide +kernel) dX3_tallyOnce_93 (by first | with_reducible assumption | exact (hfr _ (by omega)).trans hly | exact (hfr _ (by omega)).trans hq2 | exact (hfr _ (by omega)).trans hh1 | exact (hfr _ (by omega)).trans hh2 | exact (hfr _ (by omega)).trans hhe) rfl ?_
      refine v_iload_n dX3_tallyOnce_96 rfl 1 rfl ?_
      refine v_ialdS (v := nI (p3 i)) dX3_tallyOnce_97 (by first | with_reducible assumption | exact (hfr _ (by omega)).trans hly | exact (hfr _ (by omega)).trans hq2 | exact (hfr _ (by omega)).trans hh1 | exact (hfr _ (by omega)).trans hh2 | exact (hfr _ (by omega)).trans hhe) (vp_in_nI (by omega) (by omega)) (by rw [nI_clamp (by omega)]; exact (hpp i (by omega)).1) ?_
      refine v_iload_n dX3_tallyOnce_98 rfl 0 rfl ?_
      refine v_bipush (v := 101) dX3_tallyOnce_99 (by decide) ?_
      refine v_mmin (by decide +kernel) (by decide +kernel) (by decide +kernel) (by decide +kernel) dX3_tallyOnce_101 (Nat.le_of_ble_eq_true rfl) (Nat.le_of_ble_eq_true rfl) (Nat.le_of_ble_eq_true rfl) (Nat.le_of_ble_eq_true rfl) ?_
      refine v_iast dX3_tallyOnce_104 (by first | with_reducible assumption | exact (hfr _ (by omega)).trans hly | exact (hfr _ (by omega)).trans hq2 | exact (hfr _ (by omega)).trans hh1 | exact (hfr _ (by omega)).trans hh2 | exact (hfr _ (by omega)).trans hhe) (vp_in_nI (by have := hpp i (by omega); omega) (by omega)) ?_
      refine v_iinc (j := 1) (L' := [(1, _), (2, _), (0, _)]) (v := nI (i + 1)) dX3_tallyOnce_105 rfl (nI_1 _) (Nat.le_of_ble_eq_true rfl) rfl ?_
      refine v_goto (tgt := 56) dX3_tallyOnce_108 (by decide) ?_
      refine v_sub (L' := [(1, _), (0, _)]) [0, 2] rfl ?_
      have hpi := hpp i (by omega)
      rw [nI_clamp (n := p3 i) (by omega)]
      refine ih (i + 1) _ _ (by omega) sv_us (fun c hc => ?_) (fun w q => (sv_un q).trans (hfr w q))
      by_cases e : c = p3 i
      · rw [e, oc_s1 rfl]
        simp only [upd, if_true]
        rw [nI_add, show (101 : Int32) = nI 101 from rfl, gm_minN (by omega) (by omega)]
        congr 1
        omega
      · rw [oc_s0 (fun q => e q.symm)]; simp only [upd, if_neg e]; exact hgc c hc

