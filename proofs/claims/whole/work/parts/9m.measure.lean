theorem iwX8_polygonOf_X3 : ∀ w ∈ wsX30, w ∈ wsX8_polygonOf := by decide +kernel
theorem iwX8_polygonOf_X8 : ∀ w ∈ wsX80, w ∈ wsX8_polygonOf := by decide +kernel
theorem iwX8_measure_X5 : ∀ w ∈ wsX50, w ∈ wsX8_measure := by decide +kernel
theorem iwX8_measure_X8 : ∀ w ∈ wsX80, w ∈ wsX8_measure := by decide +kernel
theorem dX8_polygonOf_0 : decode cX8_polygonOf 0 = .ok (.aload_n 0, 1) := by decide +kernel
theorem dX8_polygonOf_1 : decode cX8_polygonOf 1 = .ok (.getfield 51, 3) := by decide +kernel
theorem dX8_polygonOf_4 : decode cX8_polygonOf 4 = .ok (.getfield 85, 3) := by decide +kernel
theorem dX8_polygonOf_7 : decode cX8_polygonOf 7 = .ok (.aload_n 0, 1) := by decide +kernel
theorem dX8_polygonOf_8 : decode cX8_polygonOf 8 = .ok (.getfield 17, 3) := by decide +kernel
theorem dX8_polygonOf_11 : decode cX8_polygonOf 11 = .ok (.iload_n 1, 1) := by decide +kernel
theorem dX8_polygonOf_12 : decode cX8_polygonOf 12 = .ok (.iaload, 1) := by decide +kernel
theorem dX8_polygonOf_13 : decode cX8_polygonOf 13 = .ok (.aaload, 1) := by decide +kernel
theorem dX8_polygonOf_14 : decode cX8_polygonOf 14 = .ok (.areturn, 1) := by decide +kernel
set_option maxRecDepth 20000 in
theorem ggX8_measure_X8_polygonOf : GoodIn wsX8_measure wsX8_polygonOf := goodIn_r _ [19, 20, 21, 22, 36, 37, 38, 39, 40, 41, 42, 43, 44, 45, 46, 47, 48, 49, 60, 61, 62, 63, 64, 65, 66, 67, 68, 69] (by decide +kernel) (by decide +kernel)
set_option maxRecDepth 20000 in
theorem gX8_measure_X8_polygonOf : GoodIn wsX8_measure (wsV RX8 143 RX8 yX8_polygonOf wsX8_polygonOf) := goodIn_app (goodIn_of _ (by decide +kernel)) ggX8_measure_X8_polygonOf
set_option maxRecDepth 20000 in
theorem ggX8_measure_X4_xOf : GoodIn wsX8_measure wsX4_xOf := goodIn_r _ [27, 28, 29, 30, 70, 71, 72, 73] (by decide +kernel) (by decide +kernel)
set_option maxRecDepth 20000 in
theorem gX8_measure_X4_xOf : GoodIn wsX8_measure (wsV RX8 154 RX4 yX4_xOf wsX4_xOf) := goodIn_app (goodIn_of _ (by decide +kernel)) ggX8_measure_X4_xOf
set_option maxRecDepth 20000 in
theorem ggX8_measure_X4_yOf : GoodIn wsX8_measure wsX4_yOf := goodIn_r _ [34, 28, 29, 35, 70, 71, 72, 73] (by decide +kernel) (by decide +kernel)
set_option maxRecDepth 20000 in
theorem gX8_measure_X4_yOf : GoodIn wsX8_measure (wsV RX8 158 RX4 yX4_yOf wsX4_yOf) := goodIn_app (goodIn_of _ (by decide +kernel)) ggX8_measure_X4_yOf
theorem dX8_measure_0 : decode cX8_measure 0 = .ok (.aload_n 0, 1) := by decide +kernel
theorem dX8_measure_1 : decode cX8_measure 1 = .ok (.iload_n 1, 1) := by decide +kernel
theorem dX8_measure_2 : decode cX8_measure 2 = .ok (.invokevirtual 143, 3) := by decide +kernel
theorem dX8_measure_5 : decode cX8_measure 5 = .ok (.astore_n 2, 1) := by decide +kernel
theorem dX8_measure_6 : decode cX8_measure 6 = .ok (.aload_n 0, 1) := by decide +kernel
theorem dX8_measure_7 : decode cX8_measure 7 = .ok (.getfield 24, 3) := by decide +kernel
theorem dX8_measure_10 : decode cX8_measure 10 = .ok (.iload_n 1, 1) := by decide +kernel
theorem dX8_measure_11 : decode cX8_measure 11 = .ok (.aaload, 1) := by decide +kernel
theorem dX8_measure_12 : decode cX8_measure 12 = .ok (.astore_n 3, 1) := by decide +kernel
theorem dX8_measure_13 : decode cX8_measure 13 = .ok (.iload_n 1, 1) := by decide +kernel
theorem dX8_measure_14 : decode cX8_measure 14 = .ok (.iconst 4, 1) := by decide +kernel
theorem dX8_measure_15 : decode cX8_measure 15 = .ok (.imul, 1) := by decide +kernel
theorem dX8_measure_16 : decode cX8_measure 16 = .ok (.istore 4, 2) := by decide +kernel
theorem dX8_measure_18 : decode cX8_measure 18 = .ok (.iconst 0, 1) := by decide +kernel
theorem dX8_measure_19 : decode cX8_measure 19 = .ok (.istore 5, 2) := by decide +kernel
theorem dX8_measure_21 : decode cX8_measure 21 = .ok (.iload 5, 2) := by decide +kernel
theorem dX8_measure_23 : decode cX8_measure 23 = .ok (.aload_n 2, 1) := by decide +kernel
theorem dX8_measure_24 : decode cX8_measure 24 = .ok (.getfield 147, 3) := by decide +kernel
theorem dX8_measure_27 : decode cX8_measure 27 = .ok (.if_icmp .ge 195, 3) := by decide +kernel
theorem dX8_measure_30 : decode cX8_measure 30 = .ok (.aload_n 3, 1) := by decide +kernel
theorem dX8_measure_31 : decode cX8_measure 31 = .ok (.aload_n 2, 1) := by decide +kernel
theorem dX8_measure_32 : decode cX8_measure 32 = .ok (.getfield 148, 3) := by decide +kernel
theorem dX8_measure_35 : decode cX8_measure 35 = .ok (.iload 5, 2) := by decide +kernel
theorem dX8_measure_37 : decode cX8_measure 37 = .ok (.iaload, 1) := by decide +kernel
theorem dX8_measure_38 : decode cX8_measure 38 = .ok (.aload_n 2, 1) := by decide +kernel
theorem dX8_measure_39 : decode cX8_measure 39 = .ok (.getfield 151, 3) := by decide +kernel
theorem dX8_measure_42 : decode cX8_measure 42 = .ok (.iload 5, 2) := by decide +kernel
theorem dX8_measure_44 : decode cX8_measure 44 = .ok (.iaload, 1) := by decide +kernel
theorem dX8_measure_45 : decode cX8_measure 45 = .ok (.invokevirtual 154, 3) := by decide +kernel
theorem dX8_measure_48 : decode cX8_measure 48 = .ok (.istore 6, 2) := by decide +kernel
theorem dX8_measure_50 : decode cX8_measure 50 = .ok (.aload_n 3, 1) := by decide +kernel
theorem dX8_measure_51 : decode cX8_measure 51 = .ok (.aload_n 2, 1) := by decide +kernel
theorem dX8_measure_52 : decode cX8_measure 52 = .ok (.getfield 148, 3) := by decide +kernel
theorem dX8_measure_55 : decode cX8_measure 55 = .ok (.iload 5, 2) := by decide +kernel
theorem dX8_measure_57 : decode cX8_measure 57 = .ok (.iaload, 1) := by decide +kernel
theorem dX8_measure_58 : decode cX8_measure 58 = .ok (.aload_n 2, 1) := by decide +kernel
theorem dX8_measure_59 : decode cX8_measure 59 = .ok (.getfield 151, 3) := by decide +kernel
theorem dX8_measure_62 : decode cX8_measure 62 = .ok (.iload 5, 2) := by decide +kernel
theorem dX8_measure_64 : decode cX8_measure 64 = .ok (.iaload, 1) := by decide +kernel
theorem dX8_measure_65 : decode cX8_measure 65 = .ok (.invokevirtual 158, 3) := by decide +kernel
theorem dX8_measure_68 : decode cX8_measure 68 = .ok (.istore 7, 2) := by decide +kernel
theorem dX8_measure_70 : decode cX8_measure 70 = .ok (.aload_n 0, 1) := by decide +kernel
theorem dX8_measure_71 : decode cX8_measure 71 = .ok (.getfield 33, 3) := by decide +kernel
theorem dX8_measure_74 : decode cX8_measure 74 = .ok (.iload 5, 2) := by decide +kernel
theorem dX8_measure_76 : decode cX8_measure 76 = .ok (.iload 6, 2) := by decide +kernel
theorem dX8_measure_78 : decode cX8_measure 78 = .ok (.iastore, 1) := by decide +kernel
theorem dX8_measure_79 : decode cX8_measure 79 = .ok (.aload_n 0, 1) := by decide +kernel
theorem dX8_measure_80 : decode cX8_measure 80 = .ok (.getfield 36, 3) := by decide +kernel
theorem dX8_measure_83 : decode cX8_measure 83 = .ok (.iload 5, 2) := by decide +kernel
theorem dX8_measure_85 : decode cX8_measure 85 = .ok (.iload 7, 2) := by decide +kernel
theorem dX8_measure_87 : decode cX8_measure 87 = .ok (.iastore, 1) := by decide +kernel
theorem dX8_measure_88 : decode cX8_measure 88 = .ok (.aload_n 0, 1) := by decide +kernel
theorem dX8_measure_89 : decode cX8_measure 89 = .ok (.getfield 27, 3) := by decide +kernel
theorem dX8_measure_92 : decode cX8_measure 92 = .ok (.iload 4, 2) := by decide +kernel
theorem dX8_measure_94 : decode cX8_measure 94 = .ok (.iload 5, 2) := by decide +kernel
theorem dX8_measure_96 : decode cX8_measure 96 = .ok (.ifCond .ne 8, 3) := by decide +kernel
theorem dX8_measure_99 : decode cX8_measure 99 = .ok (.iload 6, 2) := by decide +kernel
theorem dX8_measure_101 : decode cX8_measure 101 = .ok (.goto 15, 3) := by decide +kernel
theorem dX8_measure_104 : decode cX8_measure 104 = .ok (.aload_n 0, 1) := by decide +kernel
theorem dX8_measure_105 : decode cX8_measure 105 = .ok (.getfield 27, 3) := by decide +kernel
theorem dX8_measure_108 : decode cX8_measure 108 = .ok (.iload 4, 2) := by decide +kernel
theorem dX8_measure_110 : decode cX8_measure 110 = .ok (.iaload, 1) := by decide +kernel
theorem dX8_measure_111 : decode cX8_measure 111 = .ok (.iload 6, 2) := by decide +kernel
theorem dX8_measure_113 : decode cX8_measure 113 = .ok (.invokestatic 161, 3) := by decide +kernel
theorem dX8_measure_116 : decode cX8_measure 116 = .ok (.iastore, 1) := by decide +kernel
theorem dX8_measure_117 : decode cX8_measure 117 = .ok (.aload_n 0, 1) := by decide +kernel
theorem dX8_measure_118 : decode cX8_measure 118 = .ok (.getfield 27, 3) := by decide +kernel
theorem dX8_measure_121 : decode cX8_measure 121 = .ok (.iload 4, 2) := by decide +kernel
theorem dX8_measure_123 : decode cX8_measure 123 = .ok (.iconst 1, 1) := by decide +kernel
theorem dX8_measure_124 : decode cX8_measure 124 = .ok (.iadd, 1) := by decide +kernel
theorem dX8_measure_125 : decode cX8_measure 125 = .ok (.iload 5, 2) := by decide +kernel
theorem dX8_measure_127 : decode cX8_measure 127 = .ok (.ifCond .ne 8, 3) := by decide +kernel
theorem dX8_measure_130 : decode cX8_measure 130 = .ok (.iload 7, 2) := by decide +kernel
theorem dX8_measure_132 : decode cX8_measure 132 = .ok (.goto 17, 3) := by decide +kernel
theorem dX8_measure_135 : decode cX8_measure 135 = .ok (.aload_n 0, 1) := by decide +kernel
theorem dX8_measure_136 : decode cX8_measure 136 = .ok (.getfield 27, 3) := by decide +kernel
theorem dX8_measure_139 : decode cX8_measure 139 = .ok (.iload 4, 2) := by decide +kernel
theorem dX8_measure_141 : decode cX8_measure 141 = .ok (.iconst 1, 1) := by decide +kernel
theorem dX8_measure_142 : decode cX8_measure 142 = .ok (.iadd, 1) := by decide +kernel
theorem dX8_measure_143 : decode cX8_measure 143 = .ok (.iaload, 1) := by decide +kernel
theorem dX8_measure_144 : decode cX8_measure 144 = .ok (.iload 7, 2) := by decide +kernel
theorem dX8_measure_146 : decode cX8_measure 146 = .ok (.invokestatic 161, 3) := by decide +kernel
theorem dX8_measure_149 : decode cX8_measure 149 = .ok (.iastore, 1) := by decide +kernel
theorem dX8_measure_150 : decode cX8_measure 150 = .ok (.aload_n 0, 1) := by decide +kernel
theorem dX8_measure_151 : decode cX8_measure 151 = .ok (.getfield 27, 3) := by decide +kernel
theorem dX8_measure_154 : decode cX8_measure 154 = .ok (.iload 4, 2) := by decide +kernel
theorem dX8_measure_156 : decode cX8_measure 156 = .ok (.iconst 2, 1) := by decide +kernel
theorem dX8_measure_157 : decode cX8_measure 157 = .ok (.iadd, 1) := by decide +kernel
theorem dX8_measure_158 : decode cX8_measure 158 = .ok (.iload 5, 2) := by decide +kernel
theorem dX8_measure_160 : decode cX8_measure 160 = .ok (.ifCond .ne 8, 3) := by decide +kernel
theorem dX8_measure_163 : decode cX8_measure 163 = .ok (.iload 6, 2) := by decide +kernel
theorem dX8_measure_165 : decode cX8_measure 165 = .ok (.goto 17, 3) := by decide +kernel
theorem dX8_measure_168 : decode cX8_measure 168 = .ok (.aload_n 0, 1) := by decide +kernel
theorem dX8_measure_169 : decode cX8_measure 169 = .ok (.getfield 27, 3) := by decide +kernel
theorem dX8_measure_172 : decode cX8_measure 172 = .ok (.iload 4, 2) := by decide +kernel
theorem dX8_measure_174 : decode cX8_measure 174 = .ok (.iconst 2, 1) := by decide +kernel
theorem dX8_measure_175 : decode cX8_measure 175 = .ok (.iadd, 1) := by decide +kernel
theorem dX8_measure_176 : decode cX8_measure 176 = .ok (.iaload, 1) := by decide +kernel
theorem dX8_measure_177 : decode cX8_measure 177 = .ok (.iload 6, 2) := by decide +kernel
theorem dX8_measure_179 : decode cX8_measure 179 = .ok (.invokestatic 166, 3) := by decide +kernel
theorem dX8_measure_182 : decode cX8_measure 182 = .ok (.iastore, 1) := by decide +kernel
theorem dX8_measure_183 : decode cX8_measure 183 = .ok (.aload_n 0, 1) := by decide +kernel
theorem dX8_measure_184 : decode cX8_measure 184 = .ok (.getfield 27, 3) := by decide +kernel
theorem dX8_measure_187 : decode cX8_measure 187 = .ok (.iload 4, 2) := by decide +kernel
theorem dX8_measure_189 : decode cX8_measure 189 = .ok (.iconst 3, 1) := by decide +kernel
theorem dX8_measure_190 : decode cX8_measure 190 = .ok (.iadd, 1) := by decide +kernel
theorem dX8_measure_191 : decode cX8_measure 191 = .ok (.iload 5, 2) := by decide +kernel
theorem dX8_measure_193 : decode cX8_measure 193 = .ok (.ifCond .ne 8, 3) := by decide +kernel
theorem dX8_measure_196 : decode cX8_measure 196 = .ok (.iload 7, 2) := by decide +kernel
theorem dX8_measure_198 : decode cX8_measure 198 = .ok (.goto 17, 3) := by decide +kernel
theorem dX8_measure_201 : decode cX8_measure 201 = .ok (.aload_n 0, 1) := by decide +kernel
theorem dX8_measure_202 : decode cX8_measure 202 = .ok (.getfield 27, 3) := by decide +kernel
theorem dX8_measure_205 : decode cX8_measure 205 = .ok (.iload 4, 2) := by decide +kernel
theorem dX8_measure_207 : decode cX8_measure 207 = .ok (.iconst 3, 1) := by decide +kernel
theorem dX8_measure_208 : decode cX8_measure 208 = .ok (.iadd, 1) := by decide +kernel
theorem dX8_measure_209 : decode cX8_measure 209 = .ok (.iaload, 1) := by decide +kernel
theorem dX8_measure_210 : decode cX8_measure 210 = .ok (.iload 7, 2) := by decide +kernel
theorem dX8_measure_212 : decode cX8_measure 212 = .ok (.invokestatic 166, 3) := by decide +kernel
theorem dX8_measure_215 : decode cX8_measure 215 = .ok (.iastore, 1) := by decide +kernel
theorem dX8_measure_216 : decode cX8_measure 216 = .ok (.iinc 5 1, 3) := by decide +kernel
theorem dX8_measure_219 : decode cX8_measure 219 = .ok (.goto (-198), 3) := by decide +kernel
theorem dX8_measure_222 : decode cX8_measure 222 = .ok (.return_, 1) := by decide +kernel

abbrev mX8_polygonOf : sv_M := (cX8_polygonOf, 2, yX8_polygonOf, wsX8_polygonOf, (some (.object "RuleDeck$Polygon")), { frames := 0, cells := 0, slots := 0, locals := 0 }, [])
abbrev mX8_measure : sv_M := (cX8_measure, 8, yX8_measure, wsX8_measure, none, { frames := 2, cells := 0, slots := 0, locals := 60 }, [])
def oN : Option Nat → Int32 | none => -1 | some f => nI f
/-- the right polygons' rows at h0 -/
def px_ (G : sv_G) (h0 : sv_h) (np : Nat) (R : Nat → Bool) (pa sz : Nat → Nat) (X Y : Nat → Nat → Int) (fc : Nat → Nat → Nat) (oc : Nat → Nat → Option Nat) : Prop := ∀ p, p < np → R p = true → ∃ fx fy ff fo : Nat → Int32, ab_I G h0 (pa p + 1) 16 fx ∧ ab_I G h0 (pa p + 2) 16 fy ∧ ab_I G h0 (pa p + 3) 16 ff ∧ ab_I G h0 (pa p + 4) 16 fo ∧ (∀ i, i < sz p → fx i = iN (X p i) ∧ fy i = iN (Y p i) ∧ ff i = nI (fc p i) ∧ fc p i < 4 ∧ fo i = oN (oc p i) ∧ ∀ f, oc p i = some f → f < 4) ∧ 4 ≤ sz p ∧ sz p ≤ 16
/-- a corner as it lies -/
def cor (mp : Nat → mvT) (X Y : Nat → Nat → Int) (q : List Nat × Nat) (i : Nat) : Int × Int := mvA (mvW mp q.1) (X q.2 i, Y q.2 i)
def mnF (f : Nat → Int) : Nat → Int | 0 => f 0 | k + 1 => min (mnF f k) (f (k + 1))
def mxF (f : Nat → Int) : Nat → Int | 0 => f 0 | k + 1 => max (mxF f k) (f (k + 1))
theorem mnF_b {f : Nat → Int} {n : Nat} {L U : Int} (h : ∀ i, i < n → L ≤ f i ∧ f i ≤ U) : ∀ k, k < n → L ≤ mnF f k ∧ mnF f k ≤ U := by
  intro k
  induction k with
  | zero => exact fun hk => h 0 hk
  | succ k ih =>
    intro hk
    have a := ih (by omega)
    have b := h (k + 1) hk
    show L ≤ min (mnF f k) (f (k + 1)) ∧ min (mnF f k) (f (k + 1)) ≤ U
    omega
theorem mxF_b {f : Nat → Int} {n : Nat} {L U : Int} (h : ∀ i, i < n → L ≤ f i ∧ f i ≤ U) : ∀ k, k < n → L ≤ mxF f k ∧ mxF f k ≤ U := by
  intro k
  induction k with
  | zero => exact fun hk => h 0 hk
  | succ k ih =>
    intro hk
    have a := ih (by omega)
    have b := h (k + 1) hk
    show L ≤ max (mxF f k) (f (k + 1)) ∧ max (mxF f k) (f (k + 1)) ≤ U
    omega
theorem gmI_min {a b : Int} (h1 : -1000000000 ≤ a ∧ a ≤ 1000000000) (h2 : -1000000000 ≤ b ∧ b ≤ 1000000000) : gm_min (iN a) (iN b) = iN (min a b) := by
  unfold gm_min
  by_cases e : a ≤ b
  · rw [if_pos ((iN_le (by omega) (by omega) (by omega) (by omega)).mpr e), Int.min_eq_left e]
  · rw [if_neg (fun q => e ((iN_le (by omega) (by omega) (by omega) (by omega)).mp q)), Int.min_eq_right (by omega)]
theorem gmI_max {a b : Int} (h1 : -1000000000 ≤ a ∧ a ≤ 1000000000) (h2 : -1000000000 ≤ b ∧ b ≤ 1000000000) : gm_max (iN a) (iN b) = iN (max a b) := by
  unfold gm_max
  by_cases e : a ≤ b
  · rw [if_pos ((iN_le (by omega) (by omega) (by omega) (by omega)).mpr e), Int.max_eq_right e]
  · rw [if_neg (fun q => e ((iN_le (by omega) (by omega) (by omega) (by omega)).mp q)), Int.max_eq_left (by omega)]
/-- the box of the first k + 1 corners -/
def bxk (C : Nat → Int × Int) (k j : Nat) : Int := match j with | 0 => mnF (fun i => (C i).1) k | 1 => mnF (fun i => (C i).2) k | 2 => mxF (fun i => (C i).1) k | _ => mxF (fun i => (C i).2) k
def cbd (C : Nat → Int × Int) (n : Nat) : Prop := ∀ i, i < n → (-200000 ≤ (C i).1 ∧ (C i).1 ≤ 200000) ∧ -200000 ≤ (C i).2 ∧ (C i).2 ≤ 200000
theorem sv_4 (i j : Nat) : nI i * 4 + nI j = nI (4 * i + j) := by rw [show (4 : Int32) = nI 4 from rfl, sv_nm2, nI_add, Nat.mul_comm]
theorem sv_40 (i : Nat) : nI i * 4 = nI (4 * i) := by rw [show (4 : Int32) = nI 4 from rfl, sv_nm2, Nat.mul_comm]
/-- the scene once it is gathered, at h1: the parts that do not change any more -/
def sg_ (G : sv_G) (b : Nat) (k : Int32) (nc np pl : Nat) (R : Nat → Bool) (hm pa sz : Nat → Nat) (ly vo ar : Nat → Int32) (X Y : Nat → Nat → Int) (fc : Nat → Nat → Nat) (oc : Nat → Nat → Option Nat) (mp : Nat → mvT) (h1 : sv_h) (S : List (List Nat × Nat)) : Prop :=
  S.length ≤ 100 ∧ h1 (b + 35) = some (.inr (6, [.ref (b + 1), .ref (b + 36), .int (nI S.length), .ref (b + 37), .ref (b + 38), .ref (b + 39), .ref (b + 40), .ref (b + 41), .ref (b + 42), .ref (b + 43), .ref (b + 44), .ref (b + 45), .ref (b + 46), .ref (b + 47)])) ∧ (∃ f, ab_I G h1 (b + 37) 100 f ∧ ∀ i, i < S.length → f i = nI (S.getD i ([], 0)).2) ∧ (∃ f, ab_I G h1 (b + 38) 100 f ∧ ∀ i, i < S.length → f i = brn (S.getD i ([], 0)).1) ∧ (∃ f, ab_Q G h1 (b + 39) 3 100 f ∧ ∀ i, i < 100 → f i = some (b + 64 + i)) ∧ (∀ i, i < S.length → h1 (b + 64 + i) = mvC (mvW mp (S.getD i ([], 0)).1)) ∧
  h1 (b + 1) = some (.inr (1, [.int k, .int (nI nc), .ref (b + 2), .int (nI np), .ref (b + 3), .ref (b + 4), .ref (b + 5), .int (nI pl), .ref (b + 6), .ref (b + 7)])) ∧ (∃ f, ab_Q G h1 (b + 2) 4 64 f ∧ ∀ p, p < np → f p = some (pa p)) ∧ (∀ p, p < np → h1 (pa p) = some (.inr (3, [.int (nI (hm p)), .int (ly p), .ref (pa p + 1), .ref (pa p + 2), .int (nI (sz p)), .int (vo p), .int (if R p = true then 1 else 0), .int (ar p), .ref (pa p + 3), .ref (pa p + 4)])) ∧ b + 262 ≤ pa p) ∧ px_ G h1 np R pa sz X Y fc oc ∧ (∀ i, i < S.length → (S.getD i ([], 0)).2 < np ∧ R (S.getD i ([], 0)).2 = true ∧ cbd (cor mp X Y (S.getD i ([], 0))) (sz (S.getD i ([], 0)).2)) ∧ np ≤ 64
set_option maxHeartbeats 4000000 in
set_option maxRecDepth 100000 in
theorem c_polygonOf (G : sv_G) (h1 : sv_h) (z b : Nat) (k : Int32) (nc np pl : Nat) (R : Nat → Bool) (hm pa sz : Nat → Nat) (ly vo ar : Nat → Int32) (X Y : Nat → Nat → Int) (fc : Nat → Nat → Nat) (oc : Nat → Nat → Option Nat) (mp : Nat → mvT) (S : List (List Nat × Nat)) (Z : sg_ G b k nc np pl R hm pa sz ly vo ar X Y fc oc mp h1 S) (h : sv_h) (fr : ∀ a, ¬ (b + 40 ≤ a ∧ a < b + 48) → h a = h1 a) (i : Nat) (hi : i < S.length) : CT G mX8_polygonOf [.ref (b + 35), .int (nI i)] h z (fun v h2 z2 => v = some (.ref (pa (S.getD i ([], 0)).2)) ∧ h2 = h ∧ z2 = z) := by
  refine CT.of (by decide +kernel) rfl rfl (Nat.le_of_ble_eq_true rfl) ?_
  obtain ⟨z0, z1, ⟨fs, z2, z3⟩, ⟨fb_, z4, z5⟩, ⟨fl, z6, z7⟩, z8, z9, ⟨fq, zA, zB⟩, zC, zD, zE, zF⟩ := id Z
  have w1 := (fr (b + 35) (by omega)).trans z1
  have w2 : ab_I G h (b + 37) 100 fs := (fr (b + 37) (by omega)).trans z2
  have w4 : ab_I G h (b + 38) 100 fb_ := (fr (b + 38) (by omega)).trans z4
  have w6 : ab_Q G h (b + 39) 3 100 fl := (fr (b + 39) (by omega)).trans z6
  have w9 := (fr (b + 1) (by omega)).trans z9
  have wA : ab_Q G h (b + 2) 4 64 fq := (fr (b + 2) (by omega)).trans zA
  refine v_aload_n dX8_polygonOf_0 rfl 0 rfl ?_
  refine v_getf 0 (ci := 6) (C := RX8) (T := TX8) (N := 14) rfl iwX8_polygonOf_X8 (Nat.le_of_ble_eq_true rfl) (by decide +kernel) dX8_polygonOf_1 (by first | with_reducible assumption) rfl ?_
  refine v_getf 2 (ci := 1) (C := RX3) (T := TX3) (N := 10) rfl iwX8_polygonOf_X3 (Nat.le_of_ble_eq_true rfl) (by decide +kernel) dX8_polygonOf_4 (by first | with_reducible assumption) rfl ?_
  refine v_aload_n dX8_polygonOf_7 rfl 0 rfl ?_
  refine v_getf 3 (ci := 6) (C := RX8) (T := TX8) (N := 14) rfl iwX8_polygonOf_X8 (Nat.le_of_ble_eq_true rfl) (by decide +kernel) dX8_polygonOf_8 (by first | with_reducible assumption) rfl ?_
  refine v_iload_n dX8_polygonOf_11 rfl 1 rfl ?_
  refine v_ialdS (v := nI (S.getD i ([], 0)).2) dX8_polygonOf_12 (by first | with_reducible assumption) (vp_in_nI (by omega) (by omega)) (by rw [nI_clamp (by omega)]; exact z3 i hi) ?_
  refine v_aaldS (t := 4) (q := pa (S.getD i ([], 0)).2) dX8_polygonOf_13 (fun _ => rfl) (by first | with_reducible assumption) (vp_in_nI (by have := zE i hi; omega) (by omega)) (by rw [nI_clamp (by have := zE i hi; omega)]; exact zB _ (zE i hi).1) ?_
  exact v_aret rfl (by first | exact Or.inl ⟨_, rfl⟩ | exact Or.inr ⟨_, rfl⟩) dX8_polygonOf_14 (Nat.le_of_ble_eq_true rfl) (Nat.le_of_ble_eq_true rfl) ⟨rfl, rfl, rfl⟩

set_option maxHeartbeats 4000000 in
set_option maxRecDepth 100000 in
theorem l_meas (G : sv_G) (h1 : sv_h) (z b : Nat) (k : Int32) (nc np pl : Nat) (R : Nat → Bool) (hm pa sz : Nat → Nat) (ly vo ar : Nat → Int32) (X Y : Nat → Nat → Int) (fc : Nat → Nat → Nat) (oc : Nat → Nat → Option Nat) (mp : Nat → mvT) (S : List (List Nat × Nat)) (Z : sg_ G b k nc np pl R hm pa sz ly vo ar X Y fc oc mp h1 S) (fb0 : Nat → Int32) (hb : sv_h) (i : Nat) (hi : i < S.length) : ∀ (c m : Nat) (fb fcx fcy : Nat → Int32) (h : sv_h), m + c = sz (S.getD i ([], 0)).2 ∧ 1 ≤ m → ab_I G h (b + 40) 400 fb → ab_I G h (b + 42) 16 fcx → ab_I G h (b + 43) 16 fcy → (∀ j, j < 4 → fb (4 * i + j) = iN (bxk (cor mp X Y (S.getD i ([], 0))) (m - 1) j)) → (∀ a, ¬ (4 * i ≤ a ∧ a < 4 * i + 4) → fb a = fb0 a) → (∀ m9, m9 < m → fcx m9 = iN ((cor mp X Y (S.getD i ([], 0))) m9).1 ∧ fcy m9 = iN ((cor mp X Y (S.getD i ([], 0))) m9).2) → (∀ a, a ≠ b + 40 → a ≠ b + 42 → a ≠ b + 43 → h a = hb a) → (∀ a, ¬ (b + 40 ≤ a ∧ a < b + 48) → h a = h1 a) → V G mX8_measure (sv_MQ G mX8_measure (fun v h2 z2 => v = none ∧ z2 = z ∧ (∃ fb1 fcx1 fcy1 : Nat → Int32, ab_I G h2 (b + 40) 400 fb1 ∧ ab_I G h2 (b + 42) 16 fcx1 ∧ ab_I G h2 (b + 43) 16 fcy1 ∧ (∀ j, j < 4 → fb1 (4 * i + j) = iN (bxk (cor mp X Y (S.getD i ([], 0))) (sz (S.getD i ([], 0)).2 - 1) j)) ∧ (∀ a, ¬ (4 * i ≤ a ∧ a < 4 * i + 4) → fb1 a = fb0 a) ∧ ∀ m, m < sz (S.getD i ([], 0)).2 → fcx1 m = iN ((cor mp X Y (S.getD i ([], 0))) m).1 ∧ fcy1 m = iN ((cor mp X Y (S.getD i ([], 0))) m).2) ∧ ∀ a, a ≠ b + 40 → a ≠ b + 42 → a ≠ b + 43 → h2 a = hb a)) 21 [(5, .int (nI m)), (4, .int (nI (4 * i))), (3, .ref (b + 64 + i)), (2, .ref (pa (S.getD i ([], 0)).2)), (1, .int (nI i)), (0, .ref (b + 35))] [] h z 0 0 := by
  intro c
  induction c with
  | zero =>
    intro m fb fcx fcy h hmc ha1 ha2 ha3 hb4 hbo hco hfb fr
    obtain ⟨hmc, hm1⟩ := hmc
    obtain ⟨z0, z1, ⟨fs, z2, z3⟩, ⟨fb_, z4, z5⟩, ⟨fl, z6, z7⟩, z8, z9, ⟨fq, zA, zB⟩, zC, zD, zE, zF⟩ := id Z
    have w1 := (fr (b + 35) (by omega)).trans z1
    have w2 : ab_I G h (b + 37) 100 fs := (fr (b + 37) (by omega)).trans z2
    have w4 : ab_I G h (b + 38) 100 fb_ := (fr (b + 38) (by omega)).trans z4
    have w6 : ab_Q G h (b + 39) 3 100 fl := (fr (b + 39) (by omega)).trans z6
    have w9 := (fr (b + 1) (by omega)).trans z9
    have wA : ab_Q G h (b + 2) 4 64 fq := (fr (b + 2) (by omega)).trans zA
    obtain ⟨v1, v2, v3⟩ := zE i hi
    obtain ⟨v4, v5⟩ := zC _ v1
    obtain ⟨fx, fy, ff, fo, v6, v7, v8, v9, vA, vB, vC⟩ := zD _ v1 v2
    have u1 := (fr (b + 64 + i) (by omega)).trans (z8 i hi)
    have u2 := (fr (pa (S.getD i ([], 0)).2) (by omega)).trans v4
    have u3 : ab_I G h (pa (S.getD i ([], 0)).2 + 1) 16 fx := (fr _ (by omega)).trans v6
    have u4 : ab_I G h (pa (S.getD i ([], 0)).2 + 2) 16 fy := (fr _ (by omega)).trans v7
    have u5 : ab_I G h (pa (S.getD i ([], 0)).2 + 3) 16 ff := (fr _ (by omega)).trans v8
    have u6 : ab_I G h (pa (S.getD i ([], 0)).2 + 4) 16 fo := (fr _ (by omega)).trans v9
    refine v_iload dX8_measure_21 0 rfl ?_
    refine v_aload_n dX8_measure_23 rfl 3 rfl ?_
    refine v_getf 4 (ci := 3) (C := RX5) (T := TX5) (N := 10) rfl iwX8_measure_X5 (Nat.le_of_ble_eq_true rfl) (by decide +kernel) dX8_measure_24 (by first | with_reducible assumption) rfl ?_
    refine v_icmp_ge (tgt := 222) dX8_measure_27 (by decide) (fun c_27 => ?_) (fun c_27 => ?_)
    · exact v_ret rfl dX8_measure_222 (Nat.le_of_ble_eq_true rfl) (Nat.le_of_ble_eq_true rfl) ⟨rfl, rfl, ⟨fb, fcx, fcy, ha1, ha2, ha3, fun j hj => (by rw [hb4 j hj, show m = sz (S.getD i ([], 0)).2 by omega]), hbo, fun m9 h9 => hco m9 (by omega)⟩, hfb⟩
    · exact absurd (nI_le (show sz (S.getD i ([], 0)).2 ≤ m by omega) (by omega)) c_27
  | succ c ih =>
    intro m fb fcx fcy h hmc ha1 ha2 ha3 hb4 hbo hco hfb fr
    obtain ⟨hmc, hm1⟩ := hmc
    obtain ⟨z0, z1, ⟨fs, z2, z3⟩, ⟨fb_, z4, z5⟩, ⟨fl, z6, z7⟩, z8, z9, ⟨fq, zA, zB⟩, zC, zD, zE, zF⟩ := id Z
    have w1 := (fr (b + 35) (by omega)).trans z1
    have w2 : ab_I G h (b + 37) 100 fs := (fr (b + 37) (by omega)).trans z2
    have w4 : ab_I G h (b + 38) 100 fb_ := (fr (b + 38) (by omega)).trans z4
    have w6 : ab_Q G h (b + 39) 3 100 fl := (fr (b + 39) (by omega)).trans z6
    have w9 := (fr (b + 1) (by omega)).trans z9
    have wA : ab_Q G h (b + 2) 4 64 fq := (fr (b + 2) (by omega)).trans zA
    obtain ⟨v1, v2, v3⟩ := zE i hi
    obtain ⟨v4, v5⟩ := zC _ v1
    obtain ⟨fx, fy, ff, fo, v6, v7, v8, v9, vA, vB, vC⟩ := zD _ v1 v2
    have u1 := (fr (b + 64 + i) (by omega)).trans (z8 i hi)
    have u2 := (fr (pa (S.getD i ([], 0)).2) (by omega)).trans v4
    have u3 : ab_I G h (pa (S.getD i ([], 0)).2 + 1) 16 fx := (fr _ (by omega)).trans v6
    have u4 : ab_I G h (pa (S.getD i ([], 0)).2 + 2) 16 fy := (fr _ (by omega)).trans v7
    have u5 : ab_I G h (pa (S.getD i ([], 0)).2 + 3) 16 ff := (fr _ (by omega)).trans v8
    have u6 : ab_I G h (pa (S.getD i ([], 0)).2 + 4) 16 fo := (fr _ (by omega)).trans v9
    refine v_iload dX8_measure_21 0 rfl ?_
    refine v_aload_n dX8_measure_23 rfl 3 rfl ?_
    refine v_getf 4 (ci := 3) (C := RX5) (T := TX5) (N := 10) rfl iwX8_measure_X5 (Nat.le_of_ble_eq_true rfl) (by decide +kernel) dX8_measure_24 (by repeat (first | with_reducible assumption | (with_reducible refine sv_us.trans ?_; exact rfl) | with_reducible refine (sv_un (by omega)).trans ?_)) (by exact rfl) ?_
    refine v_icmp_ge (tgt := 222) dX8_measure_27 (by decide) (fun c_27 => ?_) (fun c_27 => ?_)
    · exact absurd c_27 (nI_ge (show m < sz (S.getD i ([], 0)).2 by omega) (by omega))
    · refine v_aload_n dX8_measure_30 rfl 2 rfl ?_
      refine v_aload_n dX8_measure_31 rfl 3 rfl ?_
      refine v_getf 2 (ci := 3) (C := RX5) (T := TX5) (N := 10) rfl iwX8_measure_X5 (Nat.le_of_ble_eq_true rfl) (by decide +kernel) dX8_measure_32 (by repeat (first | with_reducible assumption | (with_reducible refine sv_us.trans ?_; exact rfl) | with_reducible refine (sv_un (by omega)).trans ?_)) (by exact rfl) ?_
      refine v_iload dX8_measure_35 0 rfl ?_
      refine v_ialdS (v := iN (X (S.getD i ([], 0)).2 m)) dX8_measure_37 (by repeat (first | with_reducible assumption | (with_reducible refine sv_us.trans ?_; exact rfl) | with_reducible refine (sv_un (by omega)).trans ?_)) (vp_in_nI (by omega) (by omega)) (by rw [nI_clamp (by omega)]; exact (vA m (by omega)).1) ?_
      refine v_aload_n dX8_measure_38 rfl 3 rfl ?_
      refine v_getf 3 (ci := 3) (C := RX5) (T := TX5) (N := 10) rfl iwX8_measure_X5 (Nat.le_of_ble_eq_true rfl) (by decide +kernel) dX8_measure_39 (by repeat (first | with_reducible assumption | (with_reducible refine sv_us.trans ?_; exact rfl) | with_reducible refine (sv_un (by omega)).trans ?_)) (by exact rfl) ?_
      refine v_iload dX8_measure_42 0 rfl ?_
      refine v_ialdS (v := iN (Y (S.getD i ([], 0)).2 m)) dX8_measure_44 (by repeat (first | with_reducible assumption | (with_reducible refine sv_us.trans ?_; exact rfl) | with_reducible refine (sv_un (by omega)).trans ?_)) (vp_in_nI (by omega) (by omega)) (by rw [nI_clamp (by omega)]; exact (vA m (by omega)).2.1) ?_
      refine v_callVq (M' := mX4_xOf) (n := 2) (As := [_, _]) (ci := 2) (r := (RX4, TX4, 4)) gX8_measure_X4_xOf rfl (by decide +kernel) ⟨(Nat.le_of_ble_eq_true rfl), (Nat.le_of_ble_eq_true rfl)⟩ rfl rfl dX8_measure_45 rfl ⟨(Nat.le_of_ble_eq_true rfl), (Nat.le_of_ble_eq_true rfl)⟩ (Nat.le_of_ble_eq_true rfl) (by repeat (first | with_reducible assumption | (with_reducible refine sv_us.trans ?_; exact rfl) | with_reducible refine (sv_un (by omega)).trans ?_)) rfl (c_xOf G _ _ _ (mvW mp (S.getD i ([], 0)).1) (mvW_q mp _) u1 _ _) (fun v h1 z1 hq => v_pq hq ?_)
      refine v_istore (L' := [(6, _), (5, _), (4, _), (3, _), (2, _), (1, _), (0, _)]) dX8_measure_48 (Nat.le_of_ble_eq_true rfl) rfl ?_
      refine v_aload_n dX8_measure_50 rfl 3 rfl ?_
      refine v_aload_n dX8_measure_51 rfl 4 rfl ?_
      refine v_getf 2 (ci := 3) (C := RX5) (T := TX5) (N := 10) rfl iwX8_measure_X5 (Nat.le_of_ble_eq_true rfl) (by decide +kernel) dX8_measure_52 (by repeat (first | with_reducible assumption | (with_reducible refine sv_us.trans ?_; exact rfl) | with_reducible refine (sv_un (by omega)).trans ?_)) (by exact rfl) ?_
      refine v_iload dX8_measure_55 1 rfl ?_
      refine v_ialdS (v := iN (X (S.getD i ([], 0)).2 m)) dX8_measure_57 (by repeat (first | with_reducible assumption | (with_reducible refine sv_us.trans ?_; exact rfl) | with_reducible refine (sv_un (by omega)).trans ?_)) (vp_in_nI (by omega) (by omega)) (by rw [nI_clamp (by omega)]; exact (vA m (by omega)).1) ?_
      refine v_aload_n dX8_measure_58 rfl 4 rfl ?_
      refine v_getf 3 (ci := 3) (C := RX5) (T := TX5) (N := 10) rfl iwX8_measure_X5 (Nat.le_of_ble_eq_true rfl) (by decide +kernel) dX8_measure_59 (by repeat (first | with_reducible assumption | (with_reducible refine sv_us.trans ?_; exact rfl) | with_reducible refine (sv_un (by omega)).trans ?_)) (by exact rfl) ?_
      refine v_iload dX8_measure_62 1 rfl ?_
      refine v_ialdS (v := iN (Y (S.getD i ([], 0)).2 m)) dX8_measure_64 (by repeat (first | with_reducible assumption | (with_reducible refine sv_us.trans ?_; exact rfl) | with_reducible refine (sv_un (by omega)).trans ?_)) (vp_in_nI (by omega) (by omega)) (by rw [nI_clamp (by omega)]; exact (vA m (by omega)).2.1) ?_
      refine v_callVq (M' := mX4_yOf) (n := 2) (As := [_, _]) (ci := 2) (r := (RX4, TX4, 4)) gX8_measure_X4_yOf rfl (by decide +kernel) ⟨(Nat.le_of_ble_eq_true rfl), (Nat.le_of_ble_eq_true rfl)⟩ rfl rfl dX8_measure_65 rfl ⟨(Nat.le_of_ble_eq_true rfl), (Nat.le_of_ble_eq_true rfl)⟩ (Nat.le_of_ble_eq_true rfl) (by repeat (first | with_reducible assumption | (with_reducible refine sv_us.trans ?_; exact rfl) | with_reducible refine (sv_un (by omega)).trans ?_)) rfl (c_yOf G _ _ _ (mvW mp (S.getD i ([], 0)).1) (mvW_q mp _) u1 _ _) (fun v h1 z1 hq => v_pq hq ?_)
      refine v_istore (L' := [(7, _), (6, _), (5, _), (4, _), (3, _), (2, _), (1, _), (0, _)]) dX8_measure_68 (Nat.le_of_ble_eq_true rfl) rfl ?_
      refine v_aload_n dX8_measure_70 rfl 7 rfl ?_
      refine v_getf 8 (ci := 6) (C := RX8) (T := TX8) (N := 14) rfl iwX8_measure_X8 (Nat.le_of_ble_eq_true rfl) (by decide +kernel) dX8_measure_71 (by repeat (first | with_reducible assumption | (with_reducible refine sv_us.trans ?_; exact rfl) | with_reducible refine (sv_un (by omega)).trans ?_)) (by exact rfl) ?_
      refine v_iload dX8_measure_74 2 rfl ?_
      refine v_iload dX8_measure_76 1 rfl ?_
      refine v_iast dX8_measure_78 (by repeat (first | with_reducible assumption | (with_reducible refine sv_us.trans ?_; exact rfl) | with_reducible refine (sv_un (by omega)).trans ?_)) (vp_in_nI (by omega) (by omega)) ?_
      refine v_aload_n dX8_measure_79 rfl 7 rfl ?_
      refine v_getf 9 (ci := 6) (C := RX8) (T := TX8) (N := 14) rfl iwX8_measure_X8 (Nat.le_of_ble_eq_true rfl) (by decide +kernel) dX8_measure_80 (by repeat (first | with_reducible assumption | (with_reducible refine sv_us.trans ?_; exact rfl) | with_reducible refine (sv_un (by omega)).trans ?_)) (by exact rfl) ?_
      refine v_iload dX8_measure_83 2 rfl ?_
      refine v_iload dX8_measure_85 0 rfl ?_
      refine v_iast dX8_measure_87 (by repeat (first | with_reducible assumption | (with_reducible refine sv_us.trans ?_; exact rfl) | with_reducible refine (sv_un (by omega)).trans ?_)) (vp_in_nI (by omega) (by omega)) ?_
      refine v_aload_n dX8_measure_88 rfl 7 rfl ?_
      refine v_getf 6 (ci := 6) (C := RX8) (T := TX8) (N := 14) rfl iwX8_measure_X8 (Nat.le_of_ble_eq_true rfl) (by decide +kernel) dX8_measure_89 (by repeat (first | with_reducible assumption | (with_reducible refine sv_us.trans ?_; exact rfl) | with_reducible refine (sv_un (by omega)).trans ?_)) (by exact rfl) ?_
      refine v_iload dX8_measure_92 3 rfl ?_
      refine v_iload dX8_measure_94 2 rfl ?_
      refine v_if_ne (tgt := 104) dX8_measure_96 (by decide) (fun c_96 => ?_) (fun c_96 => ?_)
      · refine v_aload_n dX8_measure_104 rfl 7 rfl ?_
        refine v_getf 6 (ci := 6) (C := RX8) (T := TX8) (N := 14) rfl iwX8_measure_X8 (Nat.le_of_ble_eq_true rfl) (by decide +kernel) dX8_measure_105 (by repeat (first | with_reducible assumption | (with_reducible refine sv_us.trans ?_; exact rfl) | with_reducible refine (sv_un (by omega)).trans ?_)) (by exact rfl) ?_
        refine v_iload dX8_measure_108 3 rfl ?_
        refine v_ialdS (v := iN (bxk (cor mp X Y (S.getD i ([], 0))) (m - 1) 0)) dX8_measure_110 (by repeat (first | with_reducible assumption | (with_reducible refine sv_us.trans ?_; exact rfl) | with_reducible refine (sv_un (by omega)).trans ?_)) (vp_in_nI (by omega) (by omega)) (by rw [show (nI (4 * i)).toNatClampNeg = 4 * i from nI_clamp (by omega)]; exact hb4 0 (by decide)) ?_
        refine v_iload dX8_measure_111 1 rfl ?_
        refine v_mmin (by decide +kernel) (by decide +kernel) (by decide +kernel) (by decide +kernel) dX8_measure_113 (Nat.le_of_ble_eq_true rfl) (Nat.le_of_ble_eq_true rfl) (Nat.le_of_ble_eq_true rfl) (Nat.le_of_ble_eq_true rfl) ?_
        refine v_iast dX8_measure_116 (by repeat (first | with_reducible assumption | (with_reducible refine sv_us.trans ?_; exact rfl) | with_reducible refine (sv_un (by omega)).trans ?_)) (vp_in_nI (by omega) (by omega)) ?_
        refine v_aload_n dX8_measure_117 rfl 7 rfl ?_
        refine v_getf 6 (ci := 6) (C := RX8) (T := TX8) (N := 14) rfl iwX8_measure_X8 (Nat.le_of_ble_eq_true rfl) (by decide +kernel) dX8_measure_118 (by repeat (first | with_reducible assumption | (with_reducible refine sv_us.trans ?_; exact rfl) | with_reducible refine (sv_un (by omega)).trans ?_)) (by exact rfl) ?_
        refine v_iload dX8_measure_121 3 rfl ?_
        refine v_iconst (v := 1) dX8_measure_123 (by decide) ?_
        refine v_iadd dX8_measure_124 ?_
        rw [show nI (4 * i) + 1 = nI (4 * i + 1) from nI_add (4 * i) 1]
        refine v_iload dX8_measure_125 2 rfl ?_
        refine v_if_ne (tgt := 135) dX8_measure_127 (by decide) (fun c_127 => ?_) (fun c_127 => ?_)
        · refine v_aload_n dX8_measure_135 rfl 7 rfl ?_
          refine v_getf 6 (ci := 6) (C := RX8) (T := TX8) (N := 14) rfl iwX8_measure_X8 (Nat.le_of_ble_eq_true rfl) (by decide +kernel) dX8_measure_136 (by repeat (first | with_reducible assumption | (with_reducible refine sv_us.trans ?_; exact rfl) | with_reducible refine (sv_un (by omega)).trans ?_)) (by exact rfl) ?_
          refine v_iload dX8_measure_139 3 rfl ?_
          refine v_iconst (v := 1) dX8_measure_141 (by decide) ?_
          refine v_iadd dX8_measure_142 ?_
          rw [show nI (4 * i) + 1 = nI (4 * i + 1) from nI_add (4 * i) 1]
          refine v_ialdS (v := iN (bxk (cor mp X Y (S.getD i ([], 0))) (m - 1) 1)) dX8_measure_143 (by repeat (first | with_reducible assumption | (with_reducible refine sv_us.trans ?_; exact rfl) | with_reducible refine (sv_un (by omega)).trans ?_)) (vp_in_nI (by omega) (by omega)) (by rw [show (nI (4 * i)).toNatClampNeg = 4 * i from nI_clamp (by omega), show (nI (4 * i + 1)).toNatClampNeg = 4 * i + 1 from nI_clamp (by omega)]; refine (if_neg (by omega)).trans ?_; exact hb4 1 (by decide)) ?_
          refine v_iload dX8_measure_144 0 rfl ?_
          refine v_mmin (by decide +kernel) (by decide +kernel) (by decide +kernel) (by decide +kernel) dX8_measure_146 (Nat.le_of_ble_eq_true rfl) (Nat.le_of_ble_eq_true rfl) (Nat.le_of_ble_eq_true rfl) (Nat.le_of_ble_eq_true rfl) ?_
          refine v_iast dX8_measure_149 (by repeat (first | with_reducible assumption | (with_reducible refine sv_us.trans ?_; exact rfl) | with_reducible refine (sv_un (by omega)).trans ?_)) (vp_in_nI (by omega) (by omega)) ?_
          refine v_aload_n dX8_measure_150 rfl 7 rfl ?_
          refine v_getf 6 (ci := 6) (C := RX8) (T := TX8) (N := 14) rfl iwX8_measure_X8 (Nat.le_of_ble_eq_true rfl) (by decide +kernel) dX8_measure_151 (by repeat (first | with_reducible assumption | (with_reducible refine sv_us.trans ?_; exact rfl) | with_reducible refine (sv_un (by omega)).trans ?_)) (by exact rfl) ?_
          refine v_iload dX8_measure_154 3 rfl ?_
          refine v_iconst (v := 2) dX8_measure_156 (by decide) ?_
          refine v_iadd dX8_measure_157 ?_
          rw [show nI (4 * i) + 2 = nI (4 * i + 2) from nI_add (4 * i) 2]
          refine v_iload dX8_measure_158 2 rfl ?_
          refine v_if_ne (tgt := 168) dX8_measure_160 (by decide) (fun c_160 => ?_) (fun c_160 => ?_)
          · refine v_aload_n dX8_measure_168 rfl 7 rfl ?_
            refine v_getf 6 (ci := 6) (C := RX8) (T := TX8) (N := 14) rfl iwX8_measure_X8 (Nat.le_of_ble_eq_true rfl) (by decide +kernel) dX8_measure_169 (by repeat (first | with_reducible assumption | (with_reducible refine sv_us.trans ?_; exact rfl) | with_reducible refine (sv_un (by omega)).trans ?_)) (by exact rfl) ?_
            refine v_iload dX8_measure_172 3 rfl ?_
            refine v_iconst (v := 2) dX8_measure_174 (by decide) ?_
            refine v_iadd dX8_measure_175 ?_
            rw [show nI (4 * i) + 2 = nI (4 * i + 2) from nI_add (4 * i) 2]
            refine v_ialdS (v := iN (bxk (cor mp X Y (S.getD i ([], 0))) (m - 1) 2)) dX8_measure_176 (by repeat (first | with_reducible assumption | (with_reducible refine sv_us.trans ?_; exact rfl) | with_reducible refine (sv_un (by omega)).trans ?_)) (vp_in_nI (by omega) (by omega)) (by rw [show (nI (4 * i)).toNatClampNeg = 4 * i from nI_clamp (by omega), show (nI (4 * i + 1)).toNatClampNeg = 4 * i + 1 from nI_clamp (by omega), show (nI (4 * i + 2)).toNatClampNeg = 4 * i + 2 from nI_clamp (by omega)]; refine (if_neg (by omega)).trans ?_; refine (if_neg (by omega)).trans ?_; exact hb4 2 (by decide)) ?_
            refine v_iload dX8_measure_177 1 rfl ?_
            refine v_mmax (by decide +kernel) (by decide +kernel) (by decide +kernel) (by decide +kernel) dX8_measure_179 (Nat.le_of_ble_eq_true rfl) (Nat.le_of_ble_eq_true rfl) (Nat.le_of_ble_eq_true rfl) (Nat.le_of_ble_eq_true rfl) ?_
            refine v_iast dX8_measure_182 (by repeat (first | with_reducible assumption | (with_reducible refine sv_us.trans ?_; exact rfl) | with_reducible refine (sv_un (by omega)).trans ?_)) (vp_in_nI (by omega) (by omega)) ?_
            refine v_aload_n dX8_measure_183 rfl 7 rfl ?_
            refine v_getf 6 (ci := 6) (C := RX8) (T := TX8) (N := 14) rfl iwX8_measure_X8 (Nat.le_of_ble_eq_true rfl) (by decide +kernel) dX8_measure_184 (by repeat (first | with_reducible assumption | (with_reducible refine sv_us.trans ?_; exact rfl) | with_reducible refine (sv_un (by omega)).trans ?_)) (by exact rfl) ?_
            refine v_iload dX8_measure_187 3 rfl ?_
            refine v_iconst (v := 3) dX8_measure_189 (by decide) ?_
            refine v_iadd dX8_measure_190 ?_
            rw [show nI (4 * i) + 3 = nI (4 * i + 3) from nI_add (4 * i) 3]
            refine v_iload dX8_measure_191 2 rfl ?_
            refine v_if_ne (tgt := 201) dX8_measure_193 (by decide) (fun c_193 => ?_) (fun c_193 => ?_)
            · refine v_aload_n dX8_measure_201 rfl 7 rfl ?_
              refine v_getf 6 (ci := 6) (C := RX8) (T := TX8) (N := 14) rfl iwX8_measure_X8 (Nat.le_of_ble_eq_true rfl) (by decide +kernel) dX8_measure_202 (by repeat (first | with_reducible assumption | (with_reducible refine sv_us.trans ?_; exact rfl) | with_reducible refine (sv_un (by omega)).trans ?_)) (by exact rfl) ?_
              refine v_iload dX8_measure_205 3 rfl ?_
              refine v_iconst (v := 3) dX8_measure_207 (by decide) ?_
              refine v_iadd dX8_measure_208 ?_
              rw [show nI (4 * i) + 3 = nI (4 * i + 3) from nI_add (4 * i) 3]
              refine v_ialdS (v := iN (bxk (cor mp X Y (S.getD i ([], 0))) (m - 1) 3)) dX8_measure_209 (by repeat (first | with_reducible assumption | (with_reducible refine sv_us.trans ?_; exact rfl) | with_reducible refine (sv_un (by omega)).trans ?_)) (vp_in_nI (by omega) (by omega)) (by rw [show (nI (4 * i)).toNatClampNeg = 4 * i from nI_clamp (by omega), show (nI (4 * i + 1)).toNatClampNeg = 4 * i + 1 from nI_clamp (by omega), show (nI (4 * i + 2)).toNatClampNeg = 4 * i + 2 from nI_clamp (by omega), show (nI (4 * i + 3)).toNatClampNeg = 4 * i + 3 from nI_clamp (by omega)]; refine (if_neg (by omega)).trans ?_; refine (if_neg (by omega)).trans ?_; refine (if_neg (by omega)).trans ?_; exact hb4 3 (by decide)) ?_
              refine v_iload dX8_measure_210 0 rfl ?_
              refine v_mmax (by decide +kernel) (by decide +kernel) (by decide +kernel) (by decide +kernel) dX8_measure_212 (Nat.le_of_ble_eq_true rfl) (Nat.le_of_ble_eq_true rfl) (Nat.le_of_ble_eq_true rfl) (Nat.le_of_ble_eq_true rfl) ?_
              refine v_iast dX8_measure_215 (by repeat (first | with_reducible assumption | (with_reducible refine sv_us.trans ?_; exact rfl) | with_reducible refine (sv_un (by omega)).trans ?_)) (vp_in_nI (by omega) (by omega)) ?_
              refine v_iinc (j := 2) (L' := [(5, _), (7, _), (6, _), (4, _), (3, _), (2, _), (1, _), (0, _)]) (v := nI (m + 1)) dX8_measure_216 rfl (nI_1 _) (Nat.le_of_ble_eq_true rfl) rfl ?_
              refine v_goto (tgt := 21) dX8_measure_219 (by decide) ?_
              refine v_sub (L' := [(5, _), (4, _), (3, _), (2, _), (1, _), (0, _)]) [0, 3, 4, 5, 6, 7] rfl ?_
              have E0 : (nI (4 * i)).toNatClampNeg = 4 * i := nI_clamp (by omega)
              have E1 : (nI (4 * i + 1)).toNatClampNeg = 4 * i + 1 := nI_clamp (by omega)
              have E2 : (nI (4 * i + 2)).toNatClampNeg = 4 * i + 2 := nI_clamp (by omega)
              have E3 : (nI (4 * i + 3)).toNatClampNeg = 4 * i + 3 := nI_clamp (by omega)
              have EM : (nI m).toNatClampNeg = m := nI_clamp (by omega)
              rw [E0, E1, E2, E3, EM]
              refine ih (m + 1) (upd (upd (upd (upd fb (4 * i) _) (4 * i + 1) _) (4 * i + 2) _) (4 * i + 3) _) (upd fcx m _) (upd fcy m _) _ (by omega) sv_us ((sv_un (by omega)).trans ((sv_un (by omega)).trans ((sv_un (by omega)).trans ((sv_un (by omega)).trans ((sv_un (by omega)).trans sv_us))))) ((sv_un (by omega)).trans ((sv_un (by omega)).trans ((sv_un (by omega)).trans ((sv_un (by omega)).trans sv_us)))) (fun j hj => ?_) (fun a ha => (if_neg (by omega)).trans ((if_neg (by omega)).trans ((if_neg (by omega)).trans ((if_neg (by omega)).trans (hbo a ha))))) (fun m9 hm9 => ?_) (fun a p1 p2 p3 => (sv_un p1).trans ((sv_un p1).trans ((sv_un p1).trans ((sv_un p1).trans ((sv_un p3).trans ((sv_un p2).trans (hfb a p1 p2 p3))))))) (fun a p1 => (sv_un (by omega)).trans ((sv_un (by omega)).trans ((sv_un (by omega)).trans ((sv_un (by omega)).trans ((sv_un (by omega)).trans ((sv_un (by omega)).trans (fr a p1)))))))
              · have : j = 0 ∨ j = 1 ∨ j = 2 ∨ j = 3 := by omega
                rw [show m + 1 - 1 = m by omega]
                rcases this with rfl | rfl | rfl | rfl
                · exact (if_neg (by omega)).trans ((if_neg (by omega)).trans ((if_neg (by omega)).trans ((if_pos rfl).trans ((gmI_min (by have := mnF_b (f := fun i9 => ((cor mp X Y (S.getD i ([], 0))) i9).1) (n := sz (S.getD i ([], 0)).2) (L := -200000) (U := 200000) (fun i9 h9 => (v3 i9 h9).1) (m - 1) (by omega); exact ⟨by have q9 := this.1; exact Int.le_trans (by decide) q9, by have q9 := this.2; exact Int.le_trans q9 (by decide)⟩) (by have := (v3 m (by omega)).1; exact ⟨Int.le_trans (by decide) this.1, Int.le_trans this.2 (by decide)⟩)).trans (congrArg iN (show _ = bxk (cor mp X Y (S.getD i ([], 0))) m 0 from (by rw [show m = (m - 1) + 1 by omega]; rfl)))))))
                · exact (if_neg (by omega)).trans ((if_neg (by omega)).trans ((if_pos rfl).trans ((gmI_min (by have := mnF_b (f := fun i9 => ((cor mp X Y (S.getD i ([], 0))) i9).2) (n := sz (S.getD i ([], 0)).2) (L := -200000) (U := 200000) (fun i9 h9 => (v3 i9 h9).2) (m - 1) (by omega); exact ⟨by have q9 := this.1; exact Int.le_trans (by decide) q9, by have q9 := this.2; exact Int.le_trans q9 (by decide)⟩) (by have := (v3 m (by omega)).2; exact ⟨Int.le_trans (by decide) this.1, Int.le_trans this.2 (by decide)⟩)).trans (congrArg iN (show _ = bxk (cor mp X Y (S.getD i ([], 0))) m 1 from (by rw [show m = (m - 1) + 1 by omega]; rfl))))))
                · exact (if_neg (by omega)).trans ((if_pos rfl).trans ((gmI_max (by have := mxF_b (f := fun i9 => ((cor mp X Y (S.getD i ([], 0))) i9).1) (n := sz (S.getD i ([], 0)).2) (L := -200000) (U := 200000) (fun i9 h9 => (v3 i9 h9).1) (m - 1) (by omega); exact ⟨by have q9 := this.1; exact Int.le_trans (by decide) q9, by have q9 := this.2; exact Int.le_trans q9 (by decide)⟩) (by have := (v3 m (by omega)).1; exact ⟨Int.le_trans (by decide) this.1, Int.le_trans this.2 (by decide)⟩)).trans (congrArg iN (show _ = bxk (cor mp X Y (S.getD i ([], 0))) m 2 from (by rw [show m = (m - 1) + 1 by omega]; rfl)))))
                · exact (if_pos rfl).trans ((gmI_max (by have := mxF_b (f := fun i9 => ((cor mp X Y (S.getD i ([], 0))) i9).2) (n := sz (S.getD i ([], 0)).2) (L := -200000) (U := 200000) (fun i9 h9 => (v3 i9 h9).2) (m - 1) (by omega); exact ⟨by have q9 := this.1; exact Int.le_trans (by decide) q9, by have q9 := this.2; exact Int.le_trans q9 (by decide)⟩) (by have := (v3 m (by omega)).2; exact ⟨Int.le_trans (by decide) this.1, Int.le_trans this.2 (by decide)⟩)).trans (congrArg iN (show _ = bxk (cor mp X Y (S.getD i ([], 0))) m 3 from (by rw [show m = (m - 1) + 1 by omega]; rfl))))
              · by_cases e9 : m9 = m
                · rw [e9]; exact ⟨if_pos rfl, if_pos rfl⟩
                · obtain ⟨r1, r2⟩ := hco m9 (by omega)
                  exact ⟨(if_neg e9).trans r1, (if_neg e9).trans r2⟩
            · exact absurd c_193 (nI_ne0 (by omega) (by omega))
          · exact absurd c_160 (nI_ne0 (by omega) (by omega))
        · exact absurd c_127 (nI_ne0 (by omega) (by omega))
      · exact absurd c_96 (nI_ne0 (by omega) (by omega))

set_option maxHeartbeats 4000000 in
set_option maxRecDepth 100000 in
theorem l_meas0 (G : sv_G) (h1 : sv_h) (z b : Nat) (k : Int32) (nc np pl : Nat) (R : Nat → Bool) (hm pa sz : Nat → Nat) (ly vo ar : Nat → Int32) (X Y : Nat → Nat → Int) (fc : Nat → Nat → Nat) (oc : Nat → Nat → Option Nat) (mp : Nat → mvT) (S : List (List Nat × Nat)) (Z : sg_ G b k nc np pl R hm pa sz ly vo ar X Y fc oc mp h1 S) (fb0 : Nat → Int32) (hb : sv_h) (i : Nat) (hi : i < S.length) (m : Nat) (hm0 : m = 0) (fb fcx fcy : Nat → Int32) (h : sv_h) (ha1 : ab_I G h (b + 40) 400 fb) (ha2 : ab_I G h (b + 42) 16 fcx) (ha3 : ab_I G h (b + 43) 16 fcy) (hbo : ∀ a, ¬ (4 * i ≤ a ∧ a < 4 * i + 4) → fb a = fb0 a) (hco : ∀ m9, m9 < m → fcx m9 = iN ((cor mp X Y (S.getD i ([], 0))) m9).1 ∧ fcy m9 = iN ((cor mp X Y (S.getD i ([], 0))) m9).2) (hfb : ∀ a, a ≠ b + 40 → a ≠ b + 42 → a ≠ b + 43 → h a = hb a) (fr : ∀ a, ¬ (b + 40 ≤ a ∧ a < b + 48) → h a = h1 a) : V G mX8_measure (sv_MQ G mX8_measure (fun v h2 z2 => v = none ∧ z2 = z ∧ (∃ fb1 fcx1 fcy1 : Nat → Int32, ab_I G h2 (b + 40) 400 fb1 ∧ ab_I G h2 (b + 42) 16 fcx1 ∧ ab_I G h2 (b + 43) 16 fcy1 ∧ (∀ j, j < 4 → fb1 (4 * i + j) = iN (bxk (cor mp X Y (S.getD i ([], 0))) (sz (S.getD i ([], 0)).2 - 1) j)) ∧ (∀ a, ¬ (4 * i ≤ a ∧ a < 4 * i + 4) → fb1 a = fb0 a) ∧ ∀ m, m < sz (S.getD i ([], 0)).2 → fcx1 m = iN ((cor mp X Y (S.getD i ([], 0))) m).1 ∧ fcy1 m = iN ((cor mp X Y (S.getD i ([], 0))) m).2) ∧ ∀ a, a ≠ b + 40 → a ≠ b + 42 → a ≠ b + 43 → h2 a = hb a)) 21 [(5, .int (nI m)), (4, .int (nI (4 * i))), (3, .ref (b + 64 + i)), (2, .ref (pa (S.getD i ([], 0)).2)), (1, .int (nI i)), (0, .ref (b + 35))] [] h z 0 0 := by
  obtain ⟨z0, z1, ⟨fs, z2, z3⟩, ⟨fb_, z4, z5⟩, ⟨fl, z6, z7⟩, z8, z9, ⟨fq, zA, zB⟩, zC, zD, zE, zF⟩ := id Z
  have w1 := (fr (b + 35) (by omega)).trans z1
  have w2 : ab_I G h (b + 37) 100 fs := (fr (b + 37) (by omega)).trans z2
  have w4 : ab_I G h (b + 38) 100 fb_ := (fr (b + 38) (by omega)).trans z4
  have w6 : ab_Q G h (b + 39) 3 100 fl := (fr (b + 39) (by omega)).trans z6
  have w9 := (fr (b + 1) (by omega)).trans z9
  have wA : ab_Q G h (b + 2) 4 64 fq := (fr (b + 2) (by omega)).trans zA
  obtain ⟨v1, v2, v3⟩ := zE i hi
  obtain ⟨v4, v5⟩ := zC _ v1
  obtain ⟨fx, fy, ff, fo, v6, v7, v8, v9, vA, vB, vC⟩ := zD _ v1 v2
  have u1 := (fr (b + 64 + i) (by omega)).trans (z8 i hi)
  have u2 := (fr (pa (S.getD i ([], 0)).2) (by omega)).trans v4
  have u3 : ab_I G h (pa (S.getD i ([], 0)).2 + 1) 16 fx := (fr _ (by omega)).trans v6
  have u4 : ab_I G h (pa (S.getD i ([], 0)).2 + 2) 16 fy := (fr _ (by omega)).trans v7
  have u5 : ab_I G h (pa (S.getD i ([], 0)).2 + 3) 16 ff := (fr _ (by omega)).trans v8
  have u6 : ab_I G h (pa (S.getD i ([], 0)).2 + 4) 16 fo := (fr _ (by omega)).trans v9
  refine v_iload dX8_measure_21 0 rfl ?_
  refine v_aload_n dX8_measure_23 rfl 3 rfl ?_
  refine v_getf 4 (ci := 3) (C := RX5) (T := TX5) (N := 10) rfl iwX8_measure_X5 (Nat.le_of_ble_eq_true rfl) (by decide +kernel) dX8_measure_24 (by repeat (first | with_reducible assumption | (with_reducible refine sv_us.trans ?_; exact rfl) | with_reducible refine (sv_un (by omega)).trans ?_)) (by exact rfl) ?_
  refine v_icmp_ge (tgt := 222) dX8_measure_27 (by decide) (fun c_27 => ?_) (fun c_27 => ?_)
  · exact absurd c_27 (nI_ge (show m < sz (S.getD i ([], 0)).2 by omega) (by omega))
  · refine v_aload_n dX8_measure_30 rfl 2 rfl ?_
    refine v_aload_n dX8_measure_31 rfl 3 rfl ?_
    refine v_getf 2 (ci := 3) (C := RX5) (T := TX5) (N := 10) rfl iwX8_measure_X5 (Nat.le_of_ble_eq_true rfl) (by decide +kernel) dX8_measure_32 (by repeat (first | with_reducible assumption | (with_reducible refine sv_us.trans ?_; exact rfl) | with_reducible refine (sv_un (by omega)).trans ?_)) (by exact rfl) ?_
    refine v_iload dX8_measure_35 0 rfl ?_
    refine v_ialdS (v := iN (X (S.getD i ([], 0)).2 m)) dX8_measure_37 (by repeat (first | with_reducible assumption | (with_reducible refine sv_us.trans ?_; exact rfl) | with_reducible refine (sv_un (by omega)).trans ?_)) (vp_in_nI (by omega) (by omega)) (by rw [nI_clamp (by omega)]; exact (vA m (by omega)).1) ?_
    refine v_aload_n dX8_measure_38 rfl 3 rfl ?_
    refine v_getf 3 (ci := 3) (C := RX5) (T := TX5) (N := 10) rfl iwX8_measure_X5 (Nat.le_of_ble_eq_true rfl) (by decide +kernel) dX8_measure_39 (by repeat (first | with_reducible assumption | (with_reducible refine sv_us.trans ?_; exact rfl) | with_reducible refine (sv_un (by omega)).trans ?_)) (by exact rfl) ?_
    refine v_iload dX8_measure_42 0 rfl ?_
    refine v_ialdS (v := iN (Y (S.getD i ([], 0)).2 m)) dX8_measure_44 (by repeat (first | with_reducible assumption | (with_reducible refine sv_us.trans ?_; exact rfl) | with_reducible refine (sv_un (by omega)).trans ?_)) (vp_in_nI (by omega) (by omega)) (by rw [nI_clamp (by omega)]; exact (vA m (by omega)).2.1) ?_
    refine v_callVq (M' := mX4_xOf) (n := 2) (As := [_, _]) (ci := 2) (r := (RX4, TX4, 4)) gX8_measure_X4_xOf rfl (by decide +kernel) ⟨(Nat.le_of_ble_eq_true rfl), (Nat.le_of_ble_eq_true rfl)⟩ rfl rfl dX8_measure_45 rfl ⟨(Nat.le_of_ble_eq_true rfl), (Nat.le_of_ble_eq_true rfl)⟩ (Nat.le_of_ble_eq_true rfl) (by repeat (first | with_reducible assumption | (with_reducible refine sv_us.trans ?_; exact rfl) | with_reducible refine (sv_un (by omega)).trans ?_)) rfl (c_xOf G _ _ _ (mvW mp (S.getD i ([], 0)).1) (mvW_q mp _) u1 _ _) (fun v h1 z1 hq => v_pq hq ?_)
    refine v_istore (L' := [(6, _), (5, _), (4, _), (3, _), (2, _), (1, _), (0, _)]) dX8_measure_48 (Nat.le_of_ble_eq_true rfl) rfl ?_
    refine v_aload_n dX8_measure_50 rfl 3 rfl ?_
    refine v_aload_n dX8_measure_51 rfl 4 rfl ?_
    refine v_getf 2 (ci := 3) (C := RX5) (T := TX5) (N := 10) rfl iwX8_measure_X5 (Nat.le_of_ble_eq_true rfl) (by decide +kernel) dX8_measure_52 (by repeat (first | with_reducible assumption | (with_reducible refine sv_us.trans ?_; exact rfl) | with_reducible refine (sv_un (by omega)).trans ?_)) (by exact rfl) ?_
    refine v_iload dX8_measure_55 1 rfl ?_
    refine v_ialdS (v := iN (X (S.getD i ([], 0)).2 m)) dX8_measure_57 (by repeat (first | with_reducible assumption | (with_reducible refine sv_us.trans ?_; exact rfl) | with_reducible refine (sv_un (by omega)).trans ?_)) (vp_in_nI (by omega) (by omega)) (by rw [nI_clamp (by omega)]; exact (vA m (by omega)).1) ?_
    refine v_aload_n dX8_measure_58 rfl 4 rfl ?_
    refine v_getf 3 (ci := 3) (C := RX5) (T := TX5) (N := 10) rfl iwX8_measure_X5 (Nat.le_of_ble_eq_true rfl) (by decide +kernel) dX8_measure_59 (by repeat (first | with_reducible assumption | (with_reducible refine sv_us.trans ?_; exact rfl) | with_reducible refine (sv_un (by omega)).trans ?_)) (by exact rfl) ?_
    refine v_iload dX8_measure_62 1 rfl ?_
    refine v_ialdS (v := iN (Y (S.getD i ([], 0)).2 m)) dX8_measure_64 (by repeat (first | with_reducible assumption | (with_reducible refine sv_us.trans ?_; exact rfl) | with_reducible refine (sv_un (by omega)).trans ?_)) (vp_in_nI (by omega) (by omega)) (by rw [nI_clamp (by omega)]; exact (vA m (by omega)).2.1) ?_
    refine v_callVq (M' := mX4_yOf) (n := 2) (As := [_, _]) (ci := 2) (r := (RX4, TX4, 4)) gX8_measure_X4_yOf rfl (by decide +kernel) ⟨(Nat.le_of_ble_eq_true rfl), (Nat.le_of_ble_eq_true rfl)⟩ rfl rfl dX8_measure_65 rfl ⟨(Nat.le_of_ble_eq_true rfl), (Nat.le_of_ble_eq_true rfl)⟩ (Nat.le_of_ble_eq_true rfl) (by repeat (first | with_reducible assumption | (with_reducible refine sv_us.trans ?_; exact rfl) | with_reducible refine (sv_un (by omega)).trans ?_)) rfl (c_yOf G _ _ _ (mvW mp (S.getD i ([], 0)).1) (mvW_q mp _) u1 _ _) (fun v h1 z1 hq => v_pq hq ?_)
    refine v_istore (L' := [(7, _), (6, _), (5, _), (4, _), (3, _), (2, _), (1, _), (0, _)]) dX8_measure_68 (Nat.le_of_ble_eq_true rfl) rfl ?_
    refine v_aload_n dX8_measure_70 rfl 7 rfl ?_
    refine v_getf 8 (ci := 6) (C := RX8) (T := TX8) (N := 14) rfl iwX8_measure_X8 (Nat.le_of_ble_eq_true rfl) (by decide +kernel) dX8_measure_71 (by repeat (first | with_reducible assumption | (with_reducible refine sv_us.trans ?_; exact rfl) | with_reducible refine (sv_un (by omega)).trans ?_)) (by exact rfl) ?_
    refine v_iload dX8_measure_74 2 rfl ?_
    refine v_iload dX8_measure_76 1 rfl ?_
    refine v_iast dX8_measure_78 (by repeat (first | with_reducible assumption | (with_reducible refine sv_us.trans ?_; exact rfl) | with_reducible refine (sv_un (by omega)).trans ?_)) (vp_in_nI (by omega) (by omega)) ?_
    refine v_aload_n dX8_measure_79 rfl 7 rfl ?_
    refine v_getf 9 (ci := 6) (C := RX8) (T := TX8) (N := 14) rfl iwX8_measure_X8 (Nat.le_of_ble_eq_true rfl) (by decide +kernel) dX8_measure_80 (by repeat (first | with_reducible assumption | (with_reducible refine sv_us.trans ?_; exact rfl) | with_reducible refine (sv_un (by omega)).trans ?_)) (by exact rfl) ?_
    refine v_iload dX8_measure_83 2 rfl ?_
    refine v_iload dX8_measure_85 0 rfl ?_
    refine v_iast dX8_measure_87 (by repeat (first | with_reducible assumption | (with_reducible refine sv_us.trans ?_; exact rfl) | with_reducible refine (sv_un (by omega)).trans ?_)) (vp_in_nI (by omega) (by omega)) ?_
    refine v_aload_n dX8_measure_88 rfl 7 rfl ?_
    refine v_getf 6 (ci := 6) (C := RX8) (T := TX8) (N := 14) rfl iwX8_measure_X8 (Nat.le_of_ble_eq_true rfl) (by decide +kernel) dX8_measure_89 (by repeat (first | with_reducible assumption | (with_reducible refine sv_us.trans ?_; exact rfl) | with_reducible refine (sv_un (by omega)).trans ?_)) (by exact rfl) ?_
    refine v_iload dX8_measure_92 3 rfl ?_
    refine v_iload dX8_measure_94 2 rfl ?_
    refine v_if_ne (tgt := 104) dX8_measure_96 (by decide) (fun c_96 => ?_) (fun c_96 => ?_)
    · exact absurd (by rw [hm0]; exact nI_0) c_96
    · refine v_iload dX8_measure_99 1 rfl ?_
      refine v_goto (tgt := 116) dX8_measure_101 (by decide) ?_
      refine v_iast dX8_measure_116 (by repeat (first | with_reducible assumption | (with_reducible refine sv_us.trans ?_; exact rfl) | with_reducible refine (sv_un (by omega)).trans ?_)) (vp_in_nI (by omega) (by omega)) ?_
      refine v_aload_n dX8_measure_117 rfl 7 rfl ?_
      refine v_getf 6 (ci := 6) (C := RX8) (T := TX8) (N := 14) rfl iwX8_measure_X8 (Nat.le_of_ble_eq_true rfl) (by decide +kernel) dX8_measure_118 (by repeat (first | with_reducible assumption | (with_reducible refine sv_us.trans ?_; exact rfl) | with_reducible refine (sv_un (by omega)).trans ?_)) (by exact rfl) ?_
      refine v_iload dX8_measure_121 3 rfl ?_
      refine v_iconst (v := 1) dX8_measure_123 (by decide) ?_
      refine v_iadd dX8_measure_124 ?_
      rw [show nI (4 * i) + 1 = nI (4 * i + 1) from nI_add (4 * i) 1]
      refine v_iload dX8_measure_125 2 rfl ?_
      refine v_if_ne (tgt := 135) dX8_measure_127 (by decide) (fun c_127 => ?_) (fun c_127 => ?_)
      · exact absurd (by rw [hm0]; exact nI_0) c_127
      · refine v_iload dX8_measure_130 0 rfl ?_
        refine v_goto (tgt := 149) dX8_measure_132 (by decide) ?_
        refine v_iast dX8_measure_149 (by repeat (first | with_reducible assumption | (with_reducible refine sv_us.trans ?_; exact rfl) | with_reducible refine (sv_un (by omega)).trans ?_)) (vp_in_nI (by omega) (by omega)) ?_
        refine v_aload_n dX8_measure_150 rfl 7 rfl ?_
        refine v_getf 6 (ci := 6) (C := RX8) (T := TX8) (N := 14) rfl iwX8_measure_X8 (Nat.le_of_ble_eq_true rfl) (by decide +kernel) dX8_measure_151 (by repeat (first | with_reducible assumption | (with_reducible refine sv_us.trans ?_; exact rfl) | with_reducible refine (sv_un (by omega)).trans ?_)) (by exact rfl) ?_
        refine v_iload dX8_measure_154 3 rfl ?_
        refine v_iconst (v := 2) dX8_measure_156 (by decide) ?_
        refine v_iadd dX8_measure_157 ?_
        rw [show nI (4 * i) + 2 = nI (4 * i + 2) from nI_add (4 * i) 2]
        refine v_iload dX8_measure_158 2 rfl ?_
        refine v_if_ne (tgt := 168) dX8_measure_160 (by decide) (fun c_160 => ?_) (fun c_160 => ?_)
        · exact absurd (by rw [hm0]; exact nI_0) c_160
        · refine v_iload dX8_measure_163 1 rfl ?_
          refine v_goto (tgt := 182) dX8_measure_165 (by decide) ?_
          refine v_iast dX8_measure_182 (by repeat (first | with_reducible assumption | (with_reducible refine sv_us.trans ?_; exact rfl) | with_reducible refine (sv_un (by omega)).trans ?_)) (vp_in_nI (by omega) (by omega)) ?_
          refine v_aload_n dX8_measure_183 rfl 7 rfl ?_
          refine v_getf 6 (ci := 6) (C := RX8) (T := TX8) (N := 14) rfl iwX8_measure_X8 (Nat.le_of_ble_eq_true rfl) (by decide +kernel) dX8_measure_184 (by repeat (first | with_reducible assumption | (with_reducible refine sv_us.trans ?_; exact rfl) | with_reducible refine (sv_un (by omega)).trans ?_)) (by exact rfl) ?_
          refine v_iload dX8_measure_187 3 rfl ?_
          refine v_iconst (v := 3) dX8_measure_189 (by decide) ?_
          refine v_iadd dX8_measure_190 ?_
          rw [show nI (4 * i) + 3 = nI (4 * i + 3) from nI_add (4 * i) 3]
          refine v_iload dX8_measure_191 2 rfl ?_
          refine v_if_ne (tgt := 201) dX8_measure_193 (by decide) (fun c_193 => ?_) (fun c_193 => ?_)
          · exact absurd (by rw [hm0]; exact nI_0) c_193
          · refine v_iload dX8_measure_196 0 rfl ?_
            refine v_goto (tgt := 215) dX8_measure_198 (by decide) ?_
            refine v_iast dX8_measure_215 (by repeat (first | with_reducible assumption | (with_reducible refine sv_us.trans ?_; exact rfl) | with_reducible refine (sv_un (by omega)).trans ?_)) (vp_in_nI (by omega) (by omega)) ?_
            refine v_iinc (j := 2) (L' := [(5, _), (7, _), (6, _), (4, _), (3, _), (2, _), (1, _), (0, _)]) (v := nI (m + 1)) dX8_measure_216 rfl (nI_1 _) (Nat.le_of_ble_eq_true rfl) rfl ?_
            refine v_goto (tgt := 21) dX8_measure_219 (by decide) ?_
            refine v_sub (L' := [(5, _), (4, _), (3, _), (2, _), (1, _), (0, _)]) [0, 3, 4, 5, 6, 7] rfl ?_
            have E0 : (nI (4 * i)).toNatClampNeg = 4 * i := nI_clamp (by omega)
            have E1 : (nI (4 * i + 1)).toNatClampNeg = 4 * i + 1 := nI_clamp (by omega)
            have E2 : (nI (4 * i + 2)).toNatClampNeg = 4 * i + 2 := nI_clamp (by omega)
            have E3 : (nI (4 * i + 3)).toNatClampNeg = 4 * i + 3 := nI_clamp (by omega)
            have EM : (nI m).toNatClampNeg = m := nI_clamp (by omega)
            rw [E0, E1, E2, E3, EM]
            refine l_meas G _ _ b k nc np pl R hm pa sz ly vo ar X Y fc oc mp S Z fb0 hb i hi (sz (S.getD i ([], 0)).2 - (m + 1)) (m + 1) (upd (upd (upd (upd fb (4 * i) _) (4 * i + 1) _) (4 * i + 2) _) (4 * i + 3) _) (upd fcx m _) (upd fcy m _) _ (by omega) sv_us ((sv_un (by omega)).trans ((sv_un (by omega)).trans ((sv_un (by omega)).trans ((sv_un (by omega)).trans ((sv_un (by omega)).trans sv_us))))) ((sv_un (by omega)).trans ((sv_un (by omega)).trans ((sv_un (by omega)).trans ((sv_un (by omega)).trans sv_us)))) (fun j hj => ?_) (fun a ha => (if_neg (by omega)).trans ((if_neg (by omega)).trans ((if_neg (by omega)).trans ((if_neg (by omega)).trans (hbo a ha))))) (fun m9 hm9 => ?_) (fun a p1 p2 p3 => (sv_un p1).trans ((sv_un p1).trans ((sv_un p1).trans ((sv_un p1).trans ((sv_un p3).trans ((sv_un p2).trans (hfb a p1 p2 p3))))))) (fun a p1 => (sv_un (by omega)).trans ((sv_un (by omega)).trans ((sv_un (by omega)).trans ((sv_un (by omega)).trans ((sv_un (by omega)).trans ((sv_un (by omega)).trans (fr a p1)))))))
            · have : j = 0 ∨ j = 1 ∨ j = 2 ∨ j = 3 := by omega
              rw [show m + 1 - 1 = 0 by omega]
              rcases this with rfl | rfl | rfl | rfl
              · exact (if_neg (by omega)).trans ((if_neg (by omega)).trans ((if_neg (by omega)).trans ((if_pos rfl).trans (congrArg iN (show ((cor mp X Y (S.getD i ([], 0))) m).1 = bxk (cor mp X Y (S.getD i ([], 0))) 0 0 from by rw [hm0]; rfl)))))
              · exact (if_neg (by omega)).trans ((if_neg (by omega)).trans ((if_pos rfl).trans (congrArg iN (show ((cor mp X Y (S.getD i ([], 0))) m).2 = bxk (cor mp X Y (S.getD i ([], 0))) 0 1 from by rw [hm0]; rfl))))
              · exact (if_neg (by omega)).trans ((if_pos rfl).trans (congrArg iN (show ((cor mp X Y (S.getD i ([], 0))) m).1 = bxk (cor mp X Y (S.getD i ([], 0))) 0 2 from by rw [hm0]; rfl)))
              · exact (if_pos rfl).trans (congrArg iN (show ((cor mp X Y (S.getD i ([], 0))) m).2 = bxk (cor mp X Y (S.getD i ([], 0))) 0 3 from by rw [hm0]; rfl))
            · by_cases e9 : m9 = m
              · rw [e9]; exact ⟨if_pos rfl, if_pos rfl⟩
              · obtain ⟨r1, r2⟩ := hco m9 (by omega)
                exact ⟨(if_neg e9).trans r1, (if_neg e9).trans r2⟩

set_option maxHeartbeats 4000000 in
set_option maxRecDepth 100000 in
theorem c_measure (G : sv_G) (h1 : sv_h) (z b : Nat) (k : Int32) (nc np pl : Nat) (R : Nat → Bool) (hm pa sz : Nat → Nat) (ly vo ar : Nat → Int32) (X Y : Nat → Nat → Int) (fc : Nat → Nat → Nat) (oc : Nat → Nat → Option Nat) (mp : Nat → mvT) (S : List (List Nat × Nat)) (Z : sg_ G b k nc np pl R hm pa sz ly vo ar X Y fc oc mp h1 S) (hb : sv_h) (fb fcx fcy : Nat → Int32) (ha1 : ab_I G hb (b + 40) 400 fb) (ha2 : ab_I G hb (b + 42) 16 fcx) (ha3 : ab_I G hb (b + 43) 16 fcy) (fr : ∀ a, ¬ (b + 40 ≤ a ∧ a < b + 48) → hb a = h1 a) (i : Nat) (hi : i < S.length) : CT G mX8_measure [.ref (b + 35), .int (nI i)] hb z (fun v h2 z2 => v = none ∧ z2 = z ∧ (∃ fb1 fcx1 fcy1 : Nat → Int32, ab_I G h2 (b + 40) 400 fb1 ∧ ab_I G h2 (b + 42) 16 fcx1 ∧ ab_I G h2 (b + 43) 16 fcy1 ∧ (∀ j, j < 4 → fb1 (4 * i + j) = iN (bxk (cor mp X Y (S.getD i ([], 0))) (sz (S.getD i ([], 0)).2 - 1) j)) ∧ (∀ a, ¬ (4 * i ≤ a ∧ a < 4 * i + 4) → fb1 a = fb a) ∧ ∀ m, m < sz (S.getD i ([], 0)).2 → fcx1 m = iN ((cor mp X Y (S.getD i ([], 0))) m).1 ∧ fcy1 m = iN ((cor mp X Y (S.getD i ([], 0))) m).2) ∧ ∀ a, a ≠ b + 40 → a ≠ b + 42 → a ≠ b + 43 → h2 a = hb a) := by
  refine CT.of (by decide +kernel) rfl rfl (Nat.le_of_ble_eq_true rfl) ?_
  obtain ⟨z0, z1, ⟨fs, z2, z3⟩, ⟨fb_, z4, z5⟩, ⟨fl, z6, z7⟩, z8, z9, ⟨fq, zA, zB⟩, zC, zD, zE, zF⟩ := id Z
  have w1 := (fr (b + 35) (by omega)).trans z1
  have w2 : ab_I G hb (b + 37) 100 fs := (fr (b + 37) (by omega)).trans z2
  have w4 : ab_I G hb (b + 38) 100 fb_ := (fr (b + 38) (by omega)).trans z4
  have w6 : ab_Q G hb (b + 39) 3 100 fl := (fr (b + 39) (by omega)).trans z6
  have w9 := (fr (b + 1) (by omega)).trans z9
  have wA : ab_Q G hb (b + 2) 4 64 fq := (fr (b + 2) (by omega)).trans zA
  refine v_aload_n dX8_measure_0 rfl 0 rfl ?_
  refine v_iload_n dX8_measure_1 rfl 1 rfl ?_
  refine v_callVq (M' := mX8_polygonOf) (n := 1) (As := [_]) (ci := 6) (r := (RX8, TX8, 14)) gX8_measure_X8_polygonOf rfl (by decide +kernel) ⟨(Nat.le_of_ble_eq_true rfl), (Nat.le_of_ble_eq_true rfl)⟩ rfl rfl dX8_measure_2 rfl ⟨(Nat.le_of_ble_eq_true rfl), (Nat.le_of_ble_eq_true rfl)⟩ (Nat.le_of_ble_eq_true rfl) (by first | with_reducible assumption) rfl (c_polygonOf G h1 _ b k nc np pl R hm pa sz ly vo ar X Y fc oc mp S Z hb fr i hi) (fun v h1 z1 hq => v_pq hq ?_)
  refine v_astore_n (L' := [(2, _), (0, _), (1, _)]) dX8_measure_5 rfl (Nat.le_of_ble_eq_true rfl) rfl ?_
  refine v_aload_n dX8_measure_6 rfl 1 rfl ?_
  refine v_getf 5 (ci := 6) (C := RX8) (T := TX8) (N := 14) rfl iwX8_measure_X8 (Nat.le_of_ble_eq_true rfl) (by decide +kernel) dX8_measure_7 (by first | with_reducible assumption) rfl ?_
  refine v_iload_n dX8_measure_10 rfl 2 rfl ?_
  refine v_aaldS (t := 3) (q := b + 64 + i) dX8_measure_11 (fun _ => rfl) (by first | with_reducible assumption) (vp_in_nI (by omega) (by omega)) (by rw [nI_clamp (by omega)]; exact z7 i (by omega)) ?_
  refine v_astore_n (L' := [(3, _), (2, _), (0, _), (1, _)]) dX8_measure_12 rfl (Nat.le_of_ble_eq_true rfl) rfl ?_
  refine v_iload_n dX8_measure_13 rfl 3 rfl ?_
  refine v_iconst (v := 4) dX8_measure_14 (by decide) ?_
  refine v_imul dX8_measure_15 ?_
  rw [sv_40]
  refine v_istore (L' := [(4, _), (3, _), (2, _), (0, _), (1, _)]) dX8_measure_16 (Nat.le_of_ble_eq_true rfl) rfl ?_
  refine v_iconst (v := 0) dX8_measure_18 (by decide) ?_
  refine v_istore (L' := [(5, _), (4, _), (3, _), (2, _), (0, _), (1, _)]) dX8_measure_19 (Nat.le_of_ble_eq_true rfl) rfl ?_
  refine v_sub (L' := [(5, _), (4, _), (3, _), (2, _), (1, _), (0, _)]) [0, 1, 2, 3, 5, 4] rfl ?_
  exact l_meas0 G _ _ b k nc np pl R hm pa sz ly vo ar X Y fc oc mp S Z fb hb i hi 0 rfl fb fcx fcy hb ha1 ha2 ha3 (fun _ _ => rfl) (fun m9 h9 => absurd h9 (Nat.not_lt_zero m9)) (fun _ _ _ _ => rfl) fr

