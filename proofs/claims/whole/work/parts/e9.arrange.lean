section GU
variable {gu : Nat → Int64}
theorem iwX13_arrange_X13 : ∀ w ∈ wsX130, w ∈ wsX13_arrange := by decide +kernel
set_option maxRecDepth 20000 in
theorem ggX13_arrange_X13_isWaived : GoodIn wsX13_arrange wsX13_isWaived := goodIn_r _ [8, 9, 10, 11, 12, 17, 18, 19, 20, 21, 22, 23, 24, 25, 26, 27, 28, 29, 30, 31, 32, 33, 34, 35, 36, 37, 38, 39, 40, 41, 42, 43, 44, 45, 46, 47, 48, 49, 50, 51, 52, 53, 54, 55, 56, 57, 58, 59, 60, 61, 62, 63, 64, 65, 66, 67, 68, 69, 70, 71, 72, 73, 74, 75, 76, 77, 78, 79, 80, 81, 82, 83, 84, 85, 86, 87] (by decide +kernel) (by decide +kernel)
set_option maxRecDepth 20000 in
theorem gX13_arrange_X13_isWaived : GoodIn wsX13_arrange (wsV RX13 327 RX13 yX13_isWaived wsX13_isWaived) := goodIn_app (goodIn_of _ (by decide +kernel)) ggX13_arrange_X13_isWaived
set_option maxRecDepth 20000 in
theorem ggX13_arrange_X13_isBefore : GoodIn wsX13_arrange wsX13_isBefore := goodIn_r _ [16, 3, 12, 17, 18, 19, 20, 21, 22, 23, 24, 25, 26, 27, 28, 29, 30, 31, 32, 33, 34, 35, 36, 37, 38, 39, 40, 41, 42, 43, 44, 45, 46, 47, 48, 49, 50, 51, 52, 53, 54, 55, 56, 57, 58, 59, 60, 61, 62, 63, 64, 65, 66, 67, 68, 69, 70, 71, 72, 73, 74, 75, 76, 77, 78, 79, 80, 81, 82, 83, 84, 85, 86, 87] (by decide +kernel) (by decide +kernel)
set_option maxRecDepth 20000 in
theorem gX13_arrange_X13_isBefore : GoodIn wsX13_arrange (wsV RX13 330 RX13 yX13_isBefore wsX13_isBefore) := goodIn_app (goodIn_of _ (by decide +kernel)) ggX13_arrange_X13_isBefore
theorem dX13_arrange_0 : decode cX13_arrange 0 = .ok (.iconst 0, 1) := by decide +kernel
theorem dX13_arrange_1 : decode cX13_arrange 1 = .ok (.istore_n 1, 1) := by decide +kernel
theorem dX13_arrange_2 : decode cX13_arrange 2 = .ok (.iconst 0, 1) := by decide +kernel
theorem dX13_arrange_3 : decode cX13_arrange 3 = .ok (.istore_n 2, 1) := by decide +kernel
theorem dX13_arrange_4 : decode cX13_arrange 4 = .ok (.iload_n 2, 1) := by decide +kernel
theorem dX13_arrange_5 : decode cX13_arrange 5 = .ok (.aload_n 0, 1) := by decide +kernel
theorem dX13_arrange_6 : decode cX13_arrange 6 = .ok (.getfield 257, 3) := by decide +kernel
theorem dX13_arrange_9 : decode cX13_arrange 9 = .ok (.if_icmp .ge 75, 3) := by decide +kernel
theorem dX13_arrange_12 : decode cX13_arrange 12 = .ok (.aload_n 0, 1) := by decide +kernel
theorem dX13_arrange_13 : decode cX13_arrange 13 = .ok (.bipush 12, 2) := by decide +kernel
theorem dX13_arrange_15 : decode cX13_arrange 15 = .ok (.iload_n 2, 1) := by decide +kernel
theorem dX13_arrange_16 : decode cX13_arrange 16 = .ok (.imul, 1) := by decide +kernel
theorem dX13_arrange_17 : decode cX13_arrange 17 = .ok (.invokevirtual 327, 3) := by decide +kernel
theorem dX13_arrange_20 : decode cX13_arrange 20 = .ok (.ifCond .eq 6, 3) := by decide +kernel
theorem dX13_arrange_23 : decode cX13_arrange 23 = .ok (.goto 55, 3) := by decide +kernel
theorem dX13_arrange_26 : decode cX13_arrange 26 = .ok (.iload_n 1, 1) := by decide +kernel
theorem dX13_arrange_27 : decode cX13_arrange 27 = .ok (.istore_n 3, 1) := by decide +kernel
theorem dX13_arrange_28 : decode cX13_arrange 28 = .ok (.iload_n 3, 1) := by decide +kernel
theorem dX13_arrange_29 : decode cX13_arrange 29 = .ok (.ifCond .le 39, 3) := by decide +kernel
theorem dX13_arrange_32 : decode cX13_arrange 32 = .ok (.aload_n 0, 1) := by decide +kernel
theorem dX13_arrange_33 : decode cX13_arrange 33 = .ok (.iload_n 2, 1) := by decide +kernel
theorem dX13_arrange_34 : decode cX13_arrange 34 = .ok (.aload_n 0, 1) := by decide +kernel
theorem dX13_arrange_35 : decode cX13_arrange 35 = .ok (.getfield 128, 3) := by decide +kernel
theorem dX13_arrange_38 : decode cX13_arrange 38 = .ok (.iload_n 3, 1) := by decide +kernel
theorem dX13_arrange_39 : decode cX13_arrange 39 = .ok (.iconst 1, 1) := by decide +kernel
theorem dX13_arrange_40 : decode cX13_arrange 40 = .ok (.isub, 1) := by decide +kernel
theorem dX13_arrange_41 : decode cX13_arrange 41 = .ok (.iaload, 1) := by decide +kernel
theorem dX13_arrange_42 : decode cX13_arrange 42 = .ok (.invokevirtual 330, 3) := by decide +kernel
theorem dX13_arrange_45 : decode cX13_arrange 45 = .ok (.ifCond .eq 23, 3) := by decide +kernel
theorem dX13_arrange_48 : decode cX13_arrange 48 = .ok (.aload_n 0, 1) := by decide +kernel
theorem dX13_arrange_49 : decode cX13_arrange 49 = .ok (.getfield 128, 3) := by decide +kernel
theorem dX13_arrange_52 : decode cX13_arrange 52 = .ok (.iload_n 3, 1) := by decide +kernel
theorem dX13_arrange_53 : decode cX13_arrange 53 = .ok (.aload_n 0, 1) := by decide +kernel
theorem dX13_arrange_54 : decode cX13_arrange 54 = .ok (.getfield 128, 3) := by decide +kernel
theorem dX13_arrange_57 : decode cX13_arrange 57 = .ok (.iload_n 3, 1) := by decide +kernel
theorem dX13_arrange_58 : decode cX13_arrange 58 = .ok (.iconst 1, 1) := by decide +kernel
theorem dX13_arrange_59 : decode cX13_arrange 59 = .ok (.isub, 1) := by decide +kernel
theorem dX13_arrange_60 : decode cX13_arrange 60 = .ok (.iaload, 1) := by decide +kernel
theorem dX13_arrange_61 : decode cX13_arrange 61 = .ok (.iastore, 1) := by decide +kernel
theorem dX13_arrange_62 : decode cX13_arrange 62 = .ok (.iinc 3 (-1), 3) := by decide +kernel
theorem dX13_arrange_65 : decode cX13_arrange 65 = .ok (.goto (-37), 3) := by decide +kernel
theorem dX13_arrange_68 : decode cX13_arrange 68 = .ok (.aload_n 0, 1) := by decide +kernel
theorem dX13_arrange_69 : decode cX13_arrange 69 = .ok (.getfield 128, 3) := by decide +kernel
theorem dX13_arrange_72 : decode cX13_arrange 72 = .ok (.iload_n 3, 1) := by decide +kernel
theorem dX13_arrange_73 : decode cX13_arrange 73 = .ok (.iload_n 2, 1) := by decide +kernel
theorem dX13_arrange_74 : decode cX13_arrange 74 = .ok (.iastore, 1) := by decide +kernel
theorem dX13_arrange_75 : decode cX13_arrange 75 = .ok (.iinc 1 1, 3) := by decide +kernel
theorem dX13_arrange_78 : decode cX13_arrange 78 = .ok (.iinc 2 1, 3) := by decide +kernel
theorem dX13_arrange_81 : decode cX13_arrange 81 = .ok (.goto (-77), 3) := by decide +kernel
theorem dX13_arrange_84 : decode cX13_arrange 84 = .ok (.iconst 0, 1) := by decide +kernel
theorem dX13_arrange_85 : decode cX13_arrange 85 = .ok (.istore_n 2, 1) := by decide +kernel
theorem dX13_arrange_86 : decode cX13_arrange 86 = .ok (.iconst 0, 1) := by decide +kernel
theorem dX13_arrange_87 : decode cX13_arrange 87 = .ok (.istore_n 3, 1) := by decide +kernel
theorem dX13_arrange_88 : decode cX13_arrange 88 = .ok (.iload_n 3, 1) := by decide +kernel
theorem dX13_arrange_89 : decode cX13_arrange 89 = .ok (.iload_n 1, 1) := by decide +kernel
theorem dX13_arrange_90 : decode cX13_arrange 90 = .ok (.if_icmp .ge 68, 3) := by decide +kernel
theorem dX13_arrange_93 : decode cX13_arrange 93 = .ok (.aload_n 0, 1) := by decide +kernel
theorem dX13_arrange_94 : decode cX13_arrange 94 = .ok (.getfield 303, 3) := by decide +kernel
theorem dX13_arrange_97 : decode cX13_arrange 97 = .ok (.ifCond .ne 32, 3) := by decide +kernel
theorem dX13_arrange_100 : decode cX13_arrange 100 = .ok (.iload_n 2, 1) := by decide +kernel
theorem dX13_arrange_101 : decode cX13_arrange 101 = .ok (.ifCond .le 28, 3) := by decide +kernel
theorem dX13_arrange_104 : decode cX13_arrange 104 = .ok (.aload_n 0, 1) := by decide +kernel
theorem dX13_arrange_105 : decode cX13_arrange 105 = .ok (.aload_n 0, 1) := by decide +kernel
theorem dX13_arrange_106 : decode cX13_arrange 106 = .ok (.getfield 128, 3) := by decide +kernel
theorem dX13_arrange_109 : decode cX13_arrange 109 = .ok (.iload_n 2, 1) := by decide +kernel
theorem dX13_arrange_110 : decode cX13_arrange 110 = .ok (.iconst 1, 1) := by decide +kernel
theorem dX13_arrange_111 : decode cX13_arrange 111 = .ok (.isub, 1) := by decide +kernel
theorem dX13_arrange_112 : decode cX13_arrange 112 = .ok (.iaload, 1) := by decide +kernel
theorem dX13_arrange_113 : decode cX13_arrange 113 = .ok (.aload_n 0, 1) := by decide +kernel
theorem dX13_arrange_114 : decode cX13_arrange 114 = .ok (.getfield 128, 3) := by decide +kernel
theorem dX13_arrange_117 : decode cX13_arrange 117 = .ok (.iload_n 3, 1) := by decide +kernel
theorem dX13_arrange_118 : decode cX13_arrange 118 = .ok (.iaload, 1) := by decide +kernel
theorem dX13_arrange_119 : decode cX13_arrange 119 = .ok (.invokevirtual 330, 3) := by decide +kernel
theorem dX13_arrange_122 : decode cX13_arrange 122 = .ok (.ifCond .ne 7, 3) := by decide +kernel
theorem dX13_arrange_125 : decode cX13_arrange 125 = .ok (.iconst 1, 1) := by decide +kernel
theorem dX13_arrange_126 : decode cX13_arrange 126 = .ok (.goto 4, 3) := by decide +kernel
theorem dX13_arrange_129 : decode cX13_arrange 129 = .ok (.iconst 0, 1) := by decide +kernel
theorem dX13_arrange_130 : decode cX13_arrange 130 = .ok (.istore 4, 2) := by decide +kernel
theorem dX13_arrange_132 : decode cX13_arrange 132 = .ok (.iload 4, 2) := by decide +kernel
theorem dX13_arrange_134 : decode cX13_arrange 134 = .ok (.ifCond .ne 18, 3) := by decide +kernel
theorem dX13_arrange_137 : decode cX13_arrange 137 = .ok (.aload_n 0, 1) := by decide +kernel
theorem dX13_arrange_138 : decode cX13_arrange 138 = .ok (.getfield 128, 3) := by decide +kernel
theorem dX13_arrange_141 : decode cX13_arrange 141 = .ok (.iload_n 2, 1) := by decide +kernel
theorem dX13_arrange_142 : decode cX13_arrange 142 = .ok (.aload_n 0, 1) := by decide +kernel
theorem dX13_arrange_143 : decode cX13_arrange 143 = .ok (.getfield 128, 3) := by decide +kernel
theorem dX13_arrange_146 : decode cX13_arrange 146 = .ok (.iload_n 3, 1) := by decide +kernel
theorem dX13_arrange_147 : decode cX13_arrange 147 = .ok (.iaload, 1) := by decide +kernel
theorem dX13_arrange_148 : decode cX13_arrange 148 = .ok (.iastore, 1) := by decide +kernel
theorem dX13_arrange_149 : decode cX13_arrange 149 = .ok (.iinc 2 1, 3) := by decide +kernel
theorem dX13_arrange_152 : decode cX13_arrange 152 = .ok (.iinc 3 1, 3) := by decide +kernel
theorem dX13_arrange_155 : decode cX13_arrange 155 = .ok (.goto (-67), 3) := by decide +kernel
theorem dX13_arrange_158 : decode cX13_arrange 158 = .ok (.iload_n 2, 1) := by decide +kernel
theorem dX13_arrange_159 : decode cX13_arrange 159 = .ok (.ireturn, 1) := by decide +kernel

abbrev mX13_arrange : sv_M := (cX13_arrange, 5, yX13_arrange, wsX13_arrange, (some .int), { frames := 4, cells := 0, slots := 0, locals := 100 }, [])
/-- i put in at place k -/
def inK (ix : List Nat) (k i : Nat) : List Nat := ix.take k ++ i :: ix.drop k
theorem inK_l {ix : List Nat} {k i j : Nat} (hk : k ≤ ix.length) (h : j < k) : (inK ix k i).getD j 0 = ix.getD j 0 := by
  unfold inK
  rw [List.getD_eq_getElem?_getD, List.getD_eq_getElem?_getD, List.getElem?_append_left (by rw [List.length_take]; omega), List.getElem?_take_of_lt h]
theorem inK_e {ix : List Nat} {k i : Nat} (hk : k ≤ ix.length) : (inK ix k i).getD k 0 = i := by
  unfold inK
  have e : (ix.take k).length = k := by rw [List.length_take]; omega
  rw [List.getD_eq_getElem?_getD, List.getElem?_append_right (by omega), e, Nat.sub_self]; rfl
theorem inK_r {ix : List Nat} {k i j : Nat} (hk : k ≤ ix.length) (h : k ≤ j) : (inK ix k i).getD (j + 1) 0 = ix.getD j 0 := by
  unfold inK
  have e : (ix.take k).length = k := by rw [List.length_take]; omega
  rw [List.getD_eq_getElem?_getD, List.getD_eq_getElem?_getD, List.getElem?_append_right (by omega), e, show j + 1 - k = (j - k) + 1 by omega, List.getElem?_cons_succ, List.getElem?_drop, show k + (j - k) = j by omega]
theorem inK_n {ix : List Nat} {k i : Nat} (hk : k ≤ ix.length) : (inK ix k i).length = ix.length + 1 := by
  unfold inK
  rw [List.length_append, List.length_cons, List.length_take, List.length_drop]; omega
theorem inK_p (ix : List Nat) (k i : Nat) : (inK ix k i).Perm (i :: ix) := by
  unfold inK
  refine List.perm_middle.trans ?_
  rw [List.take_append_drop]
/-- the rows of ix stand in order -/
def srt (bc : Bool) (E : List (List Int64)) (ix : List Nat) : Prop := (ix.map (fun i => E.getD i [])).Pairwise (fun x y => leR bc x y = true)
theorem leR_n {bc : Bool} {a c : List Int64} (h : ¬ leR bc a c = true) : leR bc c a = true := by
  have k := leR_to bc a c
  rw [Bool.or_eq_true] at k
  exact k.resolve_left h
theorem gD_g {α : Type} {l : List α} {i : Nat} (d : α) (h : i < l.length) : l.getD i d = l[i] := by
  rw [List.getD_eq_getElem?_getD, List.getElem?_eq_getElem h]; rfl
theorem srt_ij {bc : Bool} {E : List (List Int64)} {ix : List Nat} (H : srt bc E ix) {i j : Nat} (h : i < j) (hj : j < ix.length) : leR bc (E.getD (ix.getD i 0) []) (E.getD (ix.getD j 0) []) = true := by
  have q := List.pairwise_iff_getElem.mp H i j (by rw [List.length_map]; omega) (by rw [List.length_map]; omega) h
  rw [List.getElem_map, List.getElem_map] at q
  rw [gD_g (l := ix) 0 (show i < ix.length by omega), gD_g (l := ix) 0 hj]
  exact q
theorem srt_in {bc : Bool} {E : List (List Int64)} {ix : List Nat} (H : srt bc E ix) {k i : Nat} (hk : k ≤ ix.length) (h1 : ∀ j, j + 1 = k → leR bc (E.getD (ix.getD j 0) []) (E.getD i []) = true) (h2 : ∀ j, k ≤ j → j < ix.length → ¬ leR bc (E.getD (ix.getD j 0) []) (E.getD i []) = true) : srt bc E (inK ix k i) := by
  have hL : ∀ x, x ∈ (ix.take k).map (fun i => E.getD i []) → leR bc x (E.getD i []) = true := by
    intro x hx
    obtain ⟨y, hy, rfl⟩ := List.mem_map.mp hx
    obtain ⟨j, hj, e⟩ := List.getElem_of_mem hy
    rw [List.getElem_take] at e
    rw [List.length_take] at hj
    have hjx : j < ix.length := by omega
    have e2 : y = ix.getD j 0 := by rw [gD_g (l := ix) 0 hjx]; exact e.symm
    rw [e2]
    have l := h1 (k - 1) (by omega)
    by_cases e9 : j = k - 1
    · rw [e9]; exact l
    · exact leR_tr bc _ (E.getD (ix.getD (k - 1) 0) []) _ (srt_ij H (by omega) (by omega)) l
  have hR : ∀ x, x ∈ (ix.drop k).map (fun i => E.getD i []) → leR bc (E.getD i []) x = true := by
    intro x hx
    obtain ⟨y, hy, rfl⟩ := List.mem_map.mp hx
    obtain ⟨j, hj, e⟩ := List.getElem_of_mem hy
    rw [List.getElem_drop] at e
    rw [List.length_drop] at hj
    have e2 : y = ix.getD (k + j) 0 := by rw [gD_g (l := ix) 0 (show k + j < ix.length by omega)]; exact e.symm
    rw [e2]
    exact leR_n (h2 (k + j) (by omega) (by omega))
  unfold srt at H ⊢
  unfold inK
  have e : ix = ix.take k ++ ix.drop k := (List.take_append_drop k ix).symm
  rw [e, List.map_append, List.pairwise_append] at H
  obtain ⟨a, c, d⟩ := H
  rw [List.map_append, List.map_cons, List.pairwise_append, List.pairwise_cons]
  refine ⟨a, ⟨hR, c⟩, fun x hx y hy => ?_⟩
  rcases List.mem_cons.mp hy with rfl | hy
  · exact hL x hx
  · exact leR_tr bc _ _ _ (hL x hx) (hR y hy)
theorem nI_m1 (k : Nat) : nI (k + 1) + (-1) = nI k := (Int32.sub_eq_add_neg _ _).symm.trans (nI_s1 k)
/-- of those that are told again the first one -/
def ddI (bc : Bool) (E : List (List Int64)) (ix : List Nat) : Nat → List Nat
  | 0 => []
  | k + 1 => if bc = true ∧ (ddI bc E ix k).length ≠ 0 ∧ leR bc (E.getD (ix.getD k 0) []) (E.getD ((ddI bc E ix k).getD ((ddI bc E ix k).length - 1) 0) []) = true then ddI bc E ix k else ddI bc E ix k ++ [ix.getD k 0]
theorem ddI_le (bc : Bool) (E : List (List Int64)) (ix : List Nat) : ∀ k, (ddI bc E ix k).length ≤ k
  | 0 => Nat.le_refl 0
  | k + 1 => by
    have := ddI_le bc E ix k
    show (if _ then _ else _ : List Nat).length ≤ _
    split
    · omega
    · rw [List.length_append]; show _ + 1 ≤ _; omega
theorem ddI_m (bc : Bool) (E : List (List Int64)) (ix : List Nat) : ∀ k, k ≤ ix.length → ∀ x, x ∈ ddI bc E ix k → x ∈ ix
  | 0, _, x, h => absurd h (List.not_mem_nil)
  | k + 1, hk, x, h => by
    have ih := ddI_m bc E ix k (by omega) x
    have h : x ∈ (if _ then _ else _ : List Nat) := h
    split at h
    · exact ih h
    · rcases List.mem_append.mp h with h | h
      · exact ih h
      · rw [List.mem_singleton.mp h]; exact getD_mem 0 (by omega)
set_option maxHeartbeats 4000000 in
set_option maxRecDepth 100000 in
theorem l_arI (G : sv_G) (Qr : Option Value → sv_h → Nat → Prop) (z b nc np pl : Nat) (hb : sv_h) (fs0 : List Value) (hq0 : mfq_ b nc np pl fs0) (hm0 : hb (b + 220) = some (.inr (11, fs0))) (fl : Int32) (h59 : fs0[59]? = some (.int fl)) (E : List (List Int64)) (hE15 : E.length ≤ 1500) (T : mT_ gu G hb b fs0 E) (nw : Nat) (hnw : nw ≤ 40) (h33 : fs0[33]? = some (.int (nI nw))) (rl : Int32) (h58 : fs0[58]? = some (.int rl)) (wr wf : Nat → Int64) (w42 : ab_J G hb (b + 242) 320 wf) (hwr : ∀ k, k < nw → ∀ j, j < 8 → wf (8 * k + ab_wc j) = wr (8 * k + j)) (i : Nat) (hi : i < E.length) (ix : List Nat) (hix : ix.length ≤ i) (hxE : ∀ x, x ∈ ix → x < E.length) (hs : srt (decide (fl = 0)) E ix) (hk : ∀ (h : sv_h) (ord : Nat → Int32) (k : Nat), k ≤ ix.length → ab_I G h (b + 258) 1500 ord → (∀ j, j < ix.length + 1 → ord j = nI ((inK ix k i).getD j 0)) → srt (decide (fl = 0)) E (inK ix k i) → (∀ a, a ≠ b + 258 → h a = hb a) → V G mX13_arrange (sv_MQ G mX13_arrange Qr) 78 [(2, .int (nI i)), (1, .int (nI (ix.length + 1))), (0, .ref (b + 220))] [] h z 0 0) : ∀ (k : Nat) (h : sv_h) (ord : Nat → Int32), k ≤ ix.length → ab_I G h (b + 258) 1500 ord → (∀ j, j < k → ord j = nI (ix.getD j 0)) → (∀ j, k ≤ j → j < ix.length → ord (j + 1) = nI (ix.getD j 0)) → (∀ j, k ≤ j → j < ix.length → ¬ leR (decide (fl = 0)) (E.getD (ix.getD j 0) []) (E.getD i []) = true) → (∀ a, a ≠ b + 258 → h a = hb a) → V G mX13_arrange (sv_MQ G mX13_arrange Qr) 28 [(3, .int (nI k)), (2, .int (nI i)), (1, .int (nI ix.length)), (0, .ref (b + 220))] [] h z 0 0 := by
  intro k
  induction k with
  | zero =>
    intro h ord hkl a1 a2 a3 a4 fr
    have hlen : fs0.length = 71 := hq0.1
    have f_flat := h59
    obtain ⟨t28, t29, gt, t41, tg, _⟩ := id T
    rw [Nat.min_eq_left hE15] at t28
    have tg := tg hE15
    have f_many := t28
    have hm9 := (fr (b + 220) (by omega)).trans hm0
    have w241 : ab_J G h (b + 241) 36048 gt := (fr _ (by omega)).trans t41
    have f_order := hq0.f_order
    refine v_iload_n dX13_arrange_28 rfl 0 rfl ?_
    refine v_if_le (tgt := 68) dX13_arrange_29 (by decide) (fun c_29 => ?_) (fun c_29 => ?_)
    · refine v_aload_n dX13_arrange_68 rfl 3 rfl ?_
      refine v_getf 63 (ci := 11) (C := RX13) (T := TX13) (N := 71) rfl iwX13_arrange_X13 (Nat.le_of_ble_eq_true rfl) (by decide +kernel) dX13_arrange_69 (by repeat (first | with_reducible assumption | (with_reducible refine sv_us.trans ?_; exact rfl) | with_reducible refine (sv_un (by omega)).trans ?_)) (by repeat (first | with_reducible assumption | (with_reducible refine (sv_ls (by first | omega | (simp only [List.length_set]; omega))).trans ?_; exact rfl) | with_reducible refine (List.getElem?_set_ne (by decide)).trans ?_)) ?_
      refine v_iload_n dX13_arrange_72 rfl 0 rfl ?_
      refine v_iload_n dX13_arrange_73 rfl 1 rfl ?_
      refine v_iast dX13_arrange_74 (by repeat (first | with_reducible assumption | (with_reducible refine sv_us.trans ?_; exact rfl) | with_reducible refine (sv_un (by omega)).trans ?_)) (vp_in_nI (by omega) (by omega)) ?_
      refine v_iinc (j := 2) (L' := [(1, _), (3, _), (2, _), (0, _)]) (v := nI (ix.length + 1)) dX13_arrange_75 rfl (nI_1 _) (Nat.le_of_ble_eq_true rfl) rfl ?_
      refine v_sub (L' := [(2, _), (1, _), (0, _)]) [2, 0, 3] rfl ?_
      rw [nI_clamp (show 0 < 2 ^ 31 by omega)]
      refine hk _ (upd ord (0) (nI i)) (0) hkl sv_us (fun j hj => ?_) (srt_in hs hkl (fun j hj => absurd hj (Nat.succ_ne_zero j)) a4) (fun a p => (sv_un p).trans (fr a p))
      rcases Nat.lt_trichotomy j (0) with e9 | e9 | e9
      · rw [inK_l hkl e9]; exact (if_neg (by omega)).trans (a2 j e9)
      · rw [e9, inK_e hkl]; exact if_pos rfl
      · rw [show j = (j - 1) + 1 by omega, inK_r hkl (by omega)]; exact (if_neg (by omega)).trans (a3 (j - 1) (by omega) (by omega))
    · exact absurd (by decide) c_29
  | succ k ih =>
    intro h ord hkl a1 a2 a3 a4 fr
    have hlen : fs0.length = 71 := hq0.1
    have f_flat := h59
    obtain ⟨t28, t29, gt, t41, tg, _⟩ := id T
    rw [Nat.min_eq_left hE15] at t28
    have tg := tg hE15
    have f_many := t28
    have hm9 := (fr (b + 220) (by omega)).trans hm0
    have w241 : ab_J G h (b + 241) 36048 gt := (fr _ (by omega)).trans t41
    have f_order := hq0.f_order
    have hkx := hxE _ (getD_mem (l := ix) (i := k) 0 (by omega))
    refine v_iload_n dX13_arrange_28 rfl 0 rfl ?_
    refine v_if_le (tgt := 68) dX13_arrange_29 (by decide) (fun c_29 => ?_) (fun c_29 => ?_)
    · exact absurd c_29 (nI_ge (a := 0) (by omega) (by omega))
    · refine v_aload_n dX13_arrange_32 rfl 3 rfl ?_
      refine v_iload_n dX13_arrange_33 rfl 1 rfl ?_
      refine v_aload_n dX13_arrange_34 rfl 3 rfl ?_
      refine v_getf 63 (ci := 11) (C := RX13) (T := TX13) (N := 71) rfl iwX13_arrange_X13 (Nat.le_of_ble_eq_true rfl) (by decide +kernel) dX13_arrange_35 (by repeat (first | with_reducible assumption | (with_reducible refine sv_us.trans ?_; exact rfl) | with_reducible refine (sv_un (by omega)).trans ?_)) (by repeat (first | with_reducible assumption | (with_reducible refine (sv_ls (by first | omega | (simp only [List.length_set]; omega))).trans ?_; exact rfl) | with_reducible refine (List.getElem?_set_ne (by decide)).trans ?_)) ?_
      refine v_iload_n dX13_arrange_38 rfl 0 rfl ?_
      refine v_iconst (v := 1) dX13_arrange_39 (by decide) ?_
      refine v_isub dX13_arrange_40 ?_
      rw [nI_s1]
      refine v_ialdS (v := nI (ix.getD k 0)) dX13_arrange_41 (by repeat (first | with_reducible assumption | (with_reducible refine sv_us.trans ?_; exact rfl) | with_reducible refine (sv_un (by omega)).trans ?_)) (vp_in_nI (by omega) (by omega)) (by rw [nI_clamp (by omega)]; exact a2 k (by omega)) ?_
      refine v_callVq (M' := mX13_isBefore) (n := 2) (As := [_, _]) (ci := 11) (r := (RX13, TX13, 71)) gX13_arrange_X13_isBefore rfl (by decide +kernel) ⟨(Nat.le_of_ble_eq_true rfl), (Nat.le_of_ble_eq_true rfl)⟩ rfl rfl dX13_arrange_42 rfl ⟨(Nat.le_of_ble_eq_true rfl), (Nat.le_of_ble_eq_true rfl)⟩ (Nat.le_of_ble_eq_true rfl) (by repeat (first | with_reducible assumption | (with_reducible refine sv_us.trans ?_; exact rfl) | with_reducible refine (sv_un (by omega)).trans ?_)) rfl (m_isBefore G _ b nc np pl h fs0 hq0 hm9 fl h59 gt w241 i (ix.getD k 0) (by omega) (by omega) (E.getD i []) (E.getD (ix.getD k 0) []) (tg i hi) (tg _ hkx)) (fun v9 h9 y9 hq => v_pq hq ?_)
      refine v_if_eq (tgt := 68) dX13_arrange_45 (by decide) (fun c_45 => ?_) (fun c_45 => ?_)
      · refine v_aload_n dX13_arrange_68 rfl 3 rfl ?_
        refine v_getf 63 (ci := 11) (C := RX13) (T := TX13) (N := 71) rfl iwX13_arrange_X13 (Nat.le_of_ble_eq_true rfl) (by decide +kernel) dX13_arrange_69 (by repeat (first | with_reducible assumption | (with_reducible refine sv_us.trans ?_; exact rfl) | with_reducible refine (sv_un (by omega)).trans ?_)) (by repeat (first | with_reducible assumption | (with_reducible refine (sv_ls (by first | omega | (simp only [List.length_set]; omega))).trans ?_; exact rfl) | with_reducible refine (List.getElem?_set_ne (by decide)).trans ?_)) ?_
        refine v_iload_n dX13_arrange_72 rfl 0 rfl ?_
        refine v_iload_n dX13_arrange_73 rfl 1 rfl ?_
        refine v_iast dX13_arrange_74 (by repeat (first | with_reducible assumption | (with_reducible refine sv_us.trans ?_; exact rfl) | with_reducible refine (sv_un (by omega)).trans ?_)) (vp_in_nI (by omega) (by omega)) ?_
        refine v_iinc (j := 2) (L' := [(1, _), (3, _), (2, _), (0, _)]) (v := nI (ix.length + 1)) dX13_arrange_75 rfl (nI_1 _) (Nat.le_of_ble_eq_true rfl) rfl ?_
        refine v_sub (L' := [(2, _), (1, _), (0, _)]) [2, 0, 3] rfl ?_
        rw [nI_clamp (show k + 1 < 2 ^ 31 by omega)]
        refine hk _ (upd ord (k + 1) (nI i)) (k + 1) hkl sv_us (fun j hj => ?_) (srt_in hs hkl (fun j hj => by
          have e9 : j = k := by omega
          subst e9
          by_cases l9 : leR (decide (fl = 0)) (E.getD (ix.getD j 0) []) (E.getD i []) = true
          · exact l9
          · unfold bfR at c_45
            rw [if_pos (by rw [Bool.eq_false_iff.mpr l9]; rfl)] at c_45
            exact absurd c_45 (by decide)) a4) (fun a p => (sv_un p).trans (fr a p))
        rcases Nat.lt_trichotomy j (k + 1) with e9 | e9 | e9
        · rw [inK_l hkl e9]; exact (if_neg (by omega)).trans (a2 j e9)
        · rw [e9, inK_e hkl]; exact if_pos rfl
        · rw [show j = (j - 1) + 1 by omega, inK_r hkl (by omega)]; exact (if_neg (by omega)).trans (a3 (j - 1) (by omega) (by omega))
      · refine v_aload_n dX13_arrange_48 rfl 3 rfl ?_
        refine v_getf 63 (ci := 11) (C := RX13) (T := TX13) (N := 71) rfl iwX13_arrange_X13 (Nat.le_of_ble_eq_true rfl) (by decide +kernel) dX13_arrange_49 (by repeat (first | with_reducible assumption | (with_reducible refine sv_us.trans ?_; exact rfl) | with_reducible refine (sv_un (by omega)).trans ?_)) (by repeat (first | with_reducible assumption | (with_reducible refine (sv_ls (by first | omega | (simp only [List.length_set]; omega))).trans ?_; exact rfl) | with_reducible refine (List.getElem?_set_ne (by decide)).trans ?_)) ?_
        refine v_iload_n dX13_arrange_52 rfl 0 rfl ?_
        refine v_aload_n dX13_arrange_53 rfl 3 rfl ?_
        refine v_getf 63 (ci := 11) (C := RX13) (T := TX13) (N := 71) rfl iwX13_arrange_X13 (Nat.le_of_ble_eq_true rfl) (by decide +kernel) dX13_arrange_54 (by repeat (first | with_reducible assumption | (with_reducible refine sv_us.trans ?_; exact rfl) | with_reducible refine (sv_un (by omega)).trans ?_)) (by repeat (first | with_reducible assumption | (with_reducible refine (sv_ls (by first | omega | (simp only [List.length_set]; omega))).trans ?_; exact rfl) | with_reducible refine (List.getElem?_set_ne (by decide)).trans ?_)) ?_
        refine v_iload_n dX13_arrange_57 rfl 0 rfl ?_
        refine v_iconst (v := 1) dX13_arrange_58 (by decide) ?_
        refine v_isub dX13_arrange_59 ?_
        rw [nI_s1]
        refine v_ialdS (v := nI (ix.getD k 0)) dX13_arrange_60 (by repeat (first | with_reducible assumption | (with_reducible refine sv_us.trans ?_; exact rfl) | with_reducible refine (sv_un (by omega)).trans ?_)) (vp_in_nI (by omega) (by omega)) (by rw [nI_clamp (by omega)]; exact a2 k (by omega)) ?_
        refine v_iast dX13_arrange_61 (by repeat (first | with_reducible assumption | (with_reducible refine sv_us.trans ?_; exact rfl) | with_reducible refine (sv_un (by omega)).trans ?_)) (vp_in_nI (by omega) (by omega)) ?_
        refine v_iinc (j := 0) (L' := [(3, _), (2, _), (1, _), (0, _)]) (v := nI k) dX13_arrange_62 rfl (nI_m1 k) (Nat.le_of_ble_eq_true rfl) rfl ?_
        refine v_goto (tgt := 28) dX13_arrange_65 (by decide) ?_
        refine v_sub (L' := [(3, _), (2, _), (1, _), (0, _)]) [0, 1, 2, 3] rfl ?_
        rw [nI_clamp (show k + 1 < 2 ^ 31 by omega)]
        refine ih _ (upd ord (k + 1) (nI (ix.getD k 0))) (by omega) sv_us (fun j hj => (if_neg (by omega)).trans (a2 j (by omega))) (fun j q1 q2 => ?_) (fun j q1 q2 => ?_) (fun a p => (sv_un p).trans (fr a p))
        · by_cases e9 : j = k
          · subst e9; exact if_pos rfl
          · exact (if_neg (by omega)).trans (a3 j (by omega) q2)
        · by_cases e9 : j = k
          · subst e9
            intro l9
            unfold bfR at c_45
            rw [if_neg (by rw [l9]; decide)] at c_45
            exact absurd rfl c_45
          · exact a4 j (by omega) q2

theorem m_isWaivedM (G : sv_G) (z b nc np pl : Nat) (h : sv_h) (fs : List Value) (hq : mfq_ b nc np pl fs) (hm9 : h (b + 220) = some (.inr (11, fs))) (nw : Nat) (hnw : nw ≤ 40) (h33 : fs[33]? = some (.int (nI nw))) (rl : Int32) (h58 : fs[58]? = some (.int rl)) (wr wf : Nat → Int64) (w42 : ab_J G h (b + 242) 320 wf) (hwr : ∀ k, k < nw → ∀ j, j < 8 → wf (8 * k + ab_wc j) = wr (8 * k + j)) (gt : Nat → Int64) (t41 : ab_J G h (b + 241) 36048 gt) (k : Nat) (hk : k < 1500) (r : List Int64) (g1 : ∀ j, j < 12 → gt (12 * k + j) = r.getD j 0) (aI : Int32) (ea : aI = nI (12 * k)) : CT G mX13_isWaived [.ref (b + 220), .int aI] h z (fun v h1 z1 => v = some (.int (if cvB wr nw rl r = true then 1 else 0)) ∧ h1 = h ∧ z1 = z) := by
  subst ea
  exact m_isWaivedL G z b nc np pl h fs hq hm9 nw hnw h33 rl h58 wr wf w42 hwr gt t41 k hk r g1
set_option maxHeartbeats 4000000 in
set_option maxRecDepth 100000 in
theorem l_arO (G : sv_G) (Qr : Option Value → sv_h → Nat → Prop) (z b nc np pl : Nat) (hb : sv_h) (fs0 : List Value) (hq0 : mfq_ b nc np pl fs0) (hm0 : hb (b + 220) = some (.inr (11, fs0))) (fl : Int32) (h59 : fs0[59]? = some (.int fl)) (E : List (List Int64)) (hE15 : E.length ≤ 1500) (T : mT_ gu G hb b fs0 E) (nw : Nat) (hnw : nw ≤ 40) (h33 : fs0[33]? = some (.int (nI nw))) (rl : Int32) (h58 : fs0[58]? = some (.int rl)) (wr wf : Nat → Int64) (w42 : ab_J G hb (b + 242) 320 wf) (hwr : ∀ k, k < nw → ∀ j, j < 8 → wf (8 * k + ab_wc j) = wr (8 * k + j)) (hk : ∀ (h : sv_h) (ord : Nat → Int32) (ix : List Nat), ix.Perm ((List.range E.length).filter (fun x => !cvB wr nw rl (E.getD x []))) → srt (decide (fl = 0)) E ix → ab_I G h (b + 258) 1500 ord → (∀ j, j < ix.length → ord j = nI (ix.getD j 0)) → (∀ a, a ≠ b + 258 → h a = hb a) → V G mX13_arrange (sv_MQ G mX13_arrange Qr) 84 [(1, .int (nI ix.length)), (0, .ref (b + 220))] [] h z 0 0) : ∀ (e i : Nat) (h : sv_h) (ord : Nat → Int32) (ix : List Nat), i + e = E.length → ix.Perm ((List.range i).filter (fun x => !cvB wr nw rl (E.getD x []))) → srt (decide (fl = 0)) E ix → ab_I G h (b + 258) 1500 ord → (∀ j, j < ix.length → ord j = nI (ix.getD j 0)) → (∀ a, a ≠ b + 258 → h a = hb a) → V G mX13_arrange (sv_MQ G mX13_arrange Qr) 4 [(2, .int (nI i)), (1, .int (nI ix.length)), (0, .ref (b + 220))] [] h z 0 0 := by
  intro e
  induction e with
  | zero =>
    intro i h ord ix hie hp hs a1 a2 fr
    have hlen : fs0.length = 71 := hq0.1
    have f_flat := h59
    obtain ⟨t28, t29, gt, t41, tg, _⟩ := id T
    rw [Nat.min_eq_left hE15] at t28
    have tg := tg hE15
    have f_many := t28
    have hm9 := (fr (b + 220) (by omega)).trans hm0
    have w241 : ab_J G h (b + 241) 36048 gt := (fr _ (by omega)).trans t41
    have f_order := hq0.f_order
    have e9 : i = E.length := by omega
    subst e9
    refine v_iload_n dX13_arrange_4 rfl 0 rfl ?_
    refine v_aload_n dX13_arrange_5 rfl 2 rfl ?_
    refine v_getf 28 (ci := 11) (C := RX13) (T := TX13) (N := 71) rfl iwX13_arrange_X13 (Nat.le_of_ble_eq_true rfl) (by decide +kernel) dX13_arrange_6 (by first | with_reducible assumption) (by repeat (first | with_reducible assumption | (with_reducible refine (sv_ls (by first | omega | (simp only [List.length_set]; omega))).trans ?_; exact rfl) | with_reducible refine (List.getElem?_set_ne (by decide)).trans ?_)) ?_
    refine v_icmp_ge (tgt := 84) dX13_arrange_9 (by decide) (fun c_9 => ?_) (fun c_9 => ?_)
    · refine v_sub (L' := [(1, _), (0, _)]) [1, 2] rfl ?_
      exact hk h ord ix hp hs a1 a2 fr
    · exact absurd (nI_le (Nat.le_refl _) (by omega)) c_9
  | succ e ih =>
    intro i h ord ix hie hp hs a1 a2 fr
    have hlen : fs0.length = 71 := hq0.1
    have f_flat := h59
    obtain ⟨t28, t29, gt, t41, tg, _⟩ := id T
    rw [Nat.min_eq_left hE15] at t28
    have tg := tg hE15
    have f_many := t28
    have hm9 := (fr (b + 220) (by omega)).trans hm0
    have w241 : ab_J G h (b + 241) 36048 gt := (fr _ (by omega)).trans t41
    have f_order := hq0.f_order
    have hi : i < E.length := by omega
    have hxi : ∀ x, x ∈ ix → x < i := fun x hx => List.mem_range.mp (List.mem_filter.mp (hp.mem_iff.mp hx)).1
    have hix : ix.length ≤ i := (by
      have q := List.length_filter_le (fun x => !cvB wr nw rl (E.getD x [])) (List.range i)
      rw [← hp.length_eq, List.length_range] at q
      exact q)
    refine v_iload_n dX13_arrange_4 rfl 0 rfl ?_
    refine v_aload_n dX13_arrange_5 rfl 2 rfl ?_
    refine v_getf 28 (ci := 11) (C := RX13) (T := TX13) (N := 71) rfl iwX13_arrange_X13 (Nat.le_of_ble_eq_true rfl) (by decide +kernel) dX13_arrange_6 (by first | with_reducible assumption) (by repeat (first | with_reducible assumption | (with_reducible refine (sv_ls (by first | omega | (simp only [List.length_set]; omega))).trans ?_; exact rfl) | with_reducible refine (List.getElem?_set_ne (by decide)).trans ?_)) ?_
    refine v_icmp_ge (tgt := 84) dX13_arrange_9 (by decide) (fun c_9 => ?_) (fun c_9 => ?_)
    · exact absurd c_9 (nI_ge hi (by omega))
    · refine v_aload_n dX13_arrange_12 rfl 2 rfl ?_
      refine v_bipush (v := 12) dX13_arrange_13 (by decide) ?_
      refine v_iload_n dX13_arrange_15 rfl 0 rfl ?_
      refine v_imul dX13_arrange_16 ?_
      refine v_callVq (M' := mX13_isWaived) (n := 1) (As := [_]) (ci := 11) (r := (RX13, TX13, 71)) gX13_arrange_X13_isWaived rfl (by decide +kernel) ⟨(Nat.le_of_ble_eq_true rfl), (Nat.le_of_ble_eq_true rfl)⟩ rfl rfl dX13_arrange_17 rfl ⟨(Nat.le_of_ble_eq_true rfl), (Nat.le_of_ble_eq_true rfl)⟩ (Nat.le_of_ble_eq_true rfl) (by first | with_reducible assumption) rfl (m_isWaivedM G _ b nc np pl h fs0 hq0 hm9 nw hnw h33 rl h58 wr wf ((fr _ (by omega)).trans w42) hwr gt w241 i (by omega) (E.getD i []) (tg i hi) _ (sv_12m i)) (fun v9 h9 y9 hq => v_pq hq ?_)
      refine v_if_eq (tgt := 26) dX13_arrange_20 (by decide) (fun c_20 => ?_) (fun c_20 => ?_)
      · refine v_iload_n dX13_arrange_26 rfl 1 rfl ?_
        refine v_istore_n (L' := [(3, _), (2, _), (1, _), (0, _)]) dX13_arrange_27 rfl (Nat.le_of_ble_eq_true rfl) rfl ?_
        refine v_sub (L' := [(3, _), (2, _), (1, _), (0, _)]) [0, 1, 2, 3] rfl ?_
        refine l_arI G Qr _ b nc np pl hb fs0 hq0 hm0 fl h59 E hE15 T nw hnw h33 rl h58 wr wf w42 hwr i hi ix hix (fun x hx => Nat.lt_trans (hxi x hx) hi) hs (fun h2 ord2 k v0 v1 v2 v3 v4 => ?_) ix.length h ord (Nat.le_refl _) a1 a2 (fun j q1 q2 => absurd q2 (by omega)) (fun j q1 q2 => absurd q2 (by omega)) fr
        refine v_iinc (j := 0) (L' := [(2, _), (1, _), (0, _)]) (v := nI (i + 1)) dX13_arrange_78 rfl (nI_1 _) (Nat.le_of_ble_eq_true rfl) rfl ?_
        refine v_goto (tgt := 4) dX13_arrange_81 (by decide) ?_
        refine v_sub (L' := [(2, _), (1, _), (0, _)]) [0, 1, 2] rfl ?_
        have n9 : (inK ix k i).length = ix.length + 1 := inK_n v0
        rw [← n9]
        rw [← n9] at v2
        refine ih (i + 1) h2 ord2 (inK ix k i) (by omega) ?_ v3 v1 v2 v4
        have w9 : ¬ cvB wr nw rl (E.getD i []) = true := fun q => (by rw [if_pos q] at c_20; exact absurd c_20 (by decide))
        rw [List.range_succ, List.filter_append, List.filter_cons_of_pos (by rw [Bool.eq_false_iff.mpr w9]; rfl)]
        exact (inK_p ix k i).trans ((List.Perm.cons i hp).trans (List.perm_append_singleton i _).symm)
      · refine v_goto (tgt := 78) dX13_arrange_23 (by decide) ?_
        refine v_iinc (j := 0) (L' := [(2, _), (1, _), (0, _)]) (v := nI (i + 1)) dX13_arrange_78 rfl (nI_1 _) (Nat.le_of_ble_eq_true rfl) rfl ?_
        refine v_goto (tgt := 4) dX13_arrange_81 (by decide) ?_
        refine v_sub (L' := [(2, _), (1, _), (0, _)]) [0, 1, 2] rfl ?_
        refine ih (i + 1) h ord ix (by omega) ?_ hs a1 a2 fr
        have w9 : cvB wr nw rl (E.getD i []) = true := Decidable.of_not_not (fun q => c_20 (if_neg q))
        rw [List.range_succ, List.filter_append, List.filter_cons_of_neg (by rw [w9]; decide)]
        show ix.Perm (_ ++ [])
        rw [List.append_nil]
        exact hp

theorem nI_z {n : Nat} (h : nI n ≤ 0) (hn : n < 2 ^ 31) : n = 0 := by
  rw [Int32.le_iff_toInt_le, nI_toI hn] at h
  have h : (n : Int) ≤ 0 := h
  omega
set_option maxHeartbeats 4000000 in
set_option maxRecDepth 100000 in
theorem l_arK (G : sv_G) (Qr : Option Value → sv_h → Nat → Prop) (z b nc np pl : Nat) (hb : sv_h) (fs0 : List Value) (hq0 : mfq_ b nc np pl fs0) (hm0 : hb (b + 220) = some (.inr (11, fs0))) (fl : Int32) (h59 : fs0[59]? = some (.int fl)) (E : List (List Int64)) (hE15 : E.length ≤ 1500) (T : mT_ gu G hb b fs0 E) (nw : Nat) (hnw : nw ≤ 40) (h33 : fs0[33]? = some (.int (nI nw))) (rl : Int32) (h58 : fs0[58]? = some (.int rl)) (wr wf : Nat → Int64) (w42 : ab_J G hb (b + 242) 320 wf) (hwr : ∀ k, k < nw → ∀ j, j < 8 → wf (8 * k + ab_wc j) = wr (8 * k + j)) (ix : List Nat) (hxE : ∀ x, x ∈ ix → x < E.length) (hix : ix.length ≤ 1500) (hk : ∀ (h : sv_h) (ord : Nat → Int32), ab_I G h (b + 258) 1500 ord → (∀ j, j < (ddI (decide (fl = 0)) E ix ix.length).length → ord j = nI ((ddI (decide (fl = 0)) E ix ix.length).getD j 0)) → (∀ a, a ≠ b + 258 → h a = hb a) → Qr (some (.int (nI (ddI (decide (fl = 0)) E ix ix.length).length))) h z) : ∀ (e k : Nat) (h : sv_h) (ord : Nat → Int32), k + e = ix.length → ab_I G h (b + 258) 1500 ord → (∀ j, j < (ddI (decide (fl = 0)) E ix k).length → ord j = nI ((ddI (decide (fl = 0)) E ix k).getD j 0)) → (∀ j, k ≤ j → j < ix.length → ord j = nI (ix.getD j 0)) → (∀ a, a ≠ b + 258 → h a = hb a) → V G mX13_arrange (sv_MQ G mX13_arrange Qr) 88 [(3, .int (nI k)), (2, .int (nI (ddI (decide (fl = 0)) E ix k).length)), (1, .int (nI ix.length)), (0, .ref (b + 220))] [] h z 0 0 := by
  intro e
  induction e with
  | zero =>
    intro k h ord hke a1 a2 a3 fr
    have hlen : fs0.length = 71 := hq0.1
    have f_flat := h59
    obtain ⟨t28, t29, gt, t41, tg, _⟩ := id T
    rw [Nat.min_eq_left hE15] at t28
    have tg := tg hE15
    have f_many := t28
    have hm9 := (fr (b + 220) (by omega)).trans hm0
    have w241 : ab_J G h (b + 241) 36048 gt := (fr _ (by omega)).trans t41
    have f_order := hq0.f_order
    have hkd := ddI_le (decide (fl = 0)) E ix k
    have e9 : k = ix.length := by omega
    subst e9
    refine v_iload_n dX13_arrange_88 rfl 0 rfl ?_
    refine v_iload_n dX13_arrange_89 rfl 2 rfl ?_
    refine v_icmp_ge (tgt := 158) dX13_arrange_90 (by decide) (fun c_90 => ?_) (fun c_90 => ?_)
    · refine v_iload_n dX13_arrange_158 rfl 1 rfl ?_
      exact v_iret rfl dX13_arrange_159 (Nat.le_of_ble_eq_true rfl) (Nat.le_of_ble_eq_true rfl) rfl (hk h ord a1 a2 fr)
    · exact absurd (nI_le (Nat.le_refl _) (by omega)) c_90
  | succ e ih =>
    intro k h ord hke a1 a2 a3 fr
    have hlen : fs0.length = 71 := hq0.1
    have f_flat := h59
    obtain ⟨t28, t29, gt, t41, tg, _⟩ := id T
    rw [Nat.min_eq_left hE15] at t28
    have tg := tg hE15
    have f_many := t28
    have hm9 := (fr (b + 220) (by omega)).trans hm0
    have w241 : ab_J G h (b + 241) 36048 gt := (fr _ (by omega)).trans t41
    have f_order := hq0.f_order
    have hkd := ddI_le (decide (fl = 0)) E ix k
    have hk1 : k < ix.length := by omega
    have hx1 := hxE _ (getD_mem (l := ix) (i := k) 0 hk1)
    have hy1 : 0 < (ddI (decide (fl = 0)) E ix k).length → (ddI (decide (fl = 0)) E ix k).getD ((ddI (decide (fl = 0)) E ix k).length - 1) 0 < E.length := fun q => hxE _ (ddI_m (decide (fl = 0)) E ix k (by omega) _ (getD_mem 0 (by omega)))
    refine v_iload_n dX13_arrange_88 rfl 0 rfl ?_
    refine v_iload_n dX13_arrange_89 rfl 2 rfl ?_
    refine v_icmp_ge (tgt := 158) dX13_arrange_90 (by decide) (fun c_90 => ?_) (fun c_90 => ?_)
    · exact absurd c_90 (nI_ge hk1 (by omega))
    · refine v_aload_n dX13_arrange_93 rfl 3 rfl ?_
      refine v_getf 59 (ci := 11) (C := RX13) (T := TX13) (N := 71) rfl iwX13_arrange_X13 (Nat.le_of_ble_eq_true rfl) (by decide +kernel) dX13_arrange_94 (by repeat (first | with_reducible assumption | (with_reducible refine sv_us.trans ?_; exact rfl) | with_reducible refine (sv_un (by omega)).trans ?_)) (by repeat (first | with_reducible assumption | (with_reducible refine (sv_ls (by first | omega | (simp only [List.length_set]; omega))).trans ?_; exact rfl) | with_reducible refine (List.getElem?_set_ne (by decide)).trans ?_)) ?_
      refine v_if_ne (tgt := 129) dX13_arrange_97 (by decide) (fun c_97 => ?_) (fun c_97 => ?_)
      · refine v_iconst (v := 0) dX13_arrange_129 (by decide) ?_
        refine v_istore (L' := [(4, _), (3, _), (2, _), (1, _), (0, _)]) dX13_arrange_130 (Nat.le_of_ble_eq_true rfl) rfl ?_
        refine v_iload dX13_arrange_132 0 rfl ?_
        refine v_if_ne (tgt := 152) dX13_arrange_134 (by decide) (fun c_134 => ?_) (fun c_134 => ?_)
        · refine v_iinc (j := 1) (L' := [(3, _), (4, _), (2, _), (1, _), (0, _)]) (v := nI (k + 1)) dX13_arrange_152 rfl (nI_1 _) (Nat.le_of_ble_eq_true rfl) rfl ?_
          refine v_goto (tgt := 88) dX13_arrange_155 (by decide) ?_
          first
            | exact absurd c_134 (by decide)
            | exact absurd rfl c_134
            | (have b9 := c_122
               have e8 : (ddI (decide (fl = 0)) E ix (k + 1)) = (ddI (decide (fl = 0)) E ix k) := if_pos ⟨decide_eq_true c_97, by omega, by
                 by_cases l9 : leR (decide (fl = 0)) (E.getD (ix.getD k 0) []) (E.getD ((ddI (decide (fl = 0)) E ix k).getD ((ddI (decide (fl = 0)) E ix k).length - 1) 0) []) = true
                 · exact l9
                 · unfold bfR at b9
                   rw [if_pos (by rw [Bool.eq_false_iff.mpr l9]; rfl)] at b9
                   exact absurd b9 (by decide)⟩
               refine v_sub (L' := [(3, _), (2, _), (1, _), (0, _)]) [0, 2, 3, 4] rfl ?_
               have hh := ih (k + 1) h ord (by omega)
               rw [e8] at hh
               exact hh a1 a2 (fun j q1 q2 => a3 j (by omega) q2) fr)
            | (have e8 : (ddI (decide (fl = 0)) E ix (k + 1)) = (ddI (decide (fl = 0)) E ix k) ++ [ix.getD k 0] := if_neg (fun q => by
                 first
                   | exact c_97 (of_decide_eq_true q.1)
                   | exact q.2.1 (nI_z c_101 (by omega))
                   | (have b9 := c_122
                      unfold bfR at b9
                      rw [if_neg (by rw [q.2.2]; decide)] at b9
                      exact absurd rfl b9))
               refine v_sub (L' := [(3, _), (2, _), (1, _), (0, _)]) [0, 2, 3, 4] rfl ?_
               rw [nI_clamp (show (ddI (decide (fl = 0)) E ix k).length < 2 ^ 31 by omega)]
               have n8 : ((ddI (decide (fl = 0)) E ix k) ++ [ix.getD k 0]).length = (ddI (decide (fl = 0)) E ix k).length + 1 := List.length_append
               have hh := ih (k + 1) (va_up h (b + 258) (some (.inl (G.2.2.1 0, 1500, .inl (upd ord (ddI (decide (fl = 0)) E ix k).length (nI (ix.getD k 0))))))) (upd ord (ddI (decide (fl = 0)) E ix k).length (nI (ix.getD k 0))) (by omega)
               rw [e8, n8] at hh
               refine hh sv_us (fun j hj => ?_) (fun j q1 q2 => (if_neg (by omega)).trans (a3 j (by omega) q2)) (fun a p => (sv_un p).trans (fr a p))
               by_cases e9 : j = (ddI (decide (fl = 0)) E ix k).length
               · rw [e9, gA_e]; exact if_pos rfl
               · rw [gA_l _ (by omega)]; exact (if_neg e9).trans (a2 j (by omega)))
        · refine v_aload_n dX13_arrange_137 rfl 4 rfl ?_
          refine v_getf 63 (ci := 11) (C := RX13) (T := TX13) (N := 71) rfl iwX13_arrange_X13 (Nat.le_of_ble_eq_true rfl) (by decide +kernel) dX13_arrange_138 (by repeat (first | with_reducible assumption | (with_reducible refine sv_us.trans ?_; exact rfl) | with_reducible refine (sv_un (by omega)).trans ?_)) (by repeat (first | with_reducible assumption | (with_reducible refine (sv_ls (by first | omega | (simp only [List.length_set]; omega))).trans ?_; exact rfl) | with_reducible refine (List.getElem?_set_ne (by decide)).trans ?_)) ?_
          refine v_iload_n dX13_arrange_141 rfl 2 rfl ?_
          refine v_aload_n dX13_arrange_142 rfl 4 rfl ?_
          refine v_getf 63 (ci := 11) (C := RX13) (T := TX13) (N := 71) rfl iwX13_arrange_X13 (Nat.le_of_ble_eq_true rfl) (by decide +kernel) dX13_arrange_143 (by repeat (first | with_reducible assumption | (with_reducible refine sv_us.trans ?_; exact rfl) | with_reducible refine (sv_un (by omega)).trans ?_)) (by repeat (first | with_reducible assumption | (with_reducible refine (sv_ls (by first | omega | (simp only [List.length_set]; omega))).trans ?_; exact rfl) | with_reducible refine (List.getElem?_set_ne (by decide)).trans ?_)) ?_
          refine v_iload_n dX13_arrange_146 rfl 1 rfl ?_
          refine v_ialdS (v := nI (ix.getD k 0)) dX13_arrange_147 (by repeat (first | with_reducible assumption | (with_reducible refine sv_us.trans ?_; exact rfl) | with_reducible refine (sv_un (by omega)).trans ?_)) (vp_in_nI (by omega) (by omega)) (by rw [nI_clamp (by omega)]; exact a3 k (Nat.le_refl k) hk1) ?_
          refine v_iast dX13_arrange_148 (by repeat (first | with_reducible assumption | (with_reducible refine sv_us.trans ?_; exact rfl) | with_reducible refine (sv_un (by omega)).trans ?_)) (vp_in_nI (by omega) (by omega)) ?_
          refine v_iinc (j := 2) (L' := [(2, _), (4, _), (3, _), (1, _), (0, _)]) (v := nI ((ddI (decide (fl = 0)) E ix k).length + 1)) dX13_arrange_149 rfl (nI_1 _) (Nat.le_of_ble_eq_true rfl) rfl ?_
          refine v_iinc (j := 2) (L' := [(3, _), (2, _), (4, _), (1, _), (0, _)]) (v := nI (k + 1)) dX13_arrange_152 rfl (nI_1 _) (Nat.le_of_ble_eq_true rfl) rfl ?_
          refine v_goto (tgt := 88) dX13_arrange_155 (by decide) ?_
          first
            | exact absurd c_134 (by decide)
            | exact absurd rfl c_134
            | (have b9 := c_122
               have e8 : (ddI (decide (fl = 0)) E ix (k + 1)) = (ddI (decide (fl = 0)) E ix k) := if_pos ⟨decide_eq_true c_97, by omega, by
                 by_cases l9 : leR (decide (fl = 0)) (E.getD (ix.getD k 0) []) (E.getD ((ddI (decide (fl = 0)) E ix k).getD ((ddI (decide (fl = 0)) E ix k).length - 1) 0) []) = true
                 · exact l9
                 · unfold bfR at b9
                   rw [if_pos (by rw [Bool.eq_false_iff.mpr l9]; rfl)] at b9
                   exact absurd b9 (by decide)⟩
               refine v_sub (L' := [(3, _), (2, _), (1, _), (0, _)]) [0, 1, 3, 4] rfl ?_
               have hh := ih (k + 1) h ord (by omega)
               rw [e8] at hh
               exact hh a1 a2 (fun j q1 q2 => a3 j (by omega) q2) fr)
            | (have e8 : (ddI (decide (fl = 0)) E ix (k + 1)) = (ddI (decide (fl = 0)) E ix k) ++ [ix.getD k 0] := if_neg (fun q => by
                 first
                   | exact c_97 (of_decide_eq_true q.1)
                   | exact q.2.1 (nI_z c_101 (by omega))
                   | (have b9 := c_122
                      unfold bfR at b9
                      rw [if_neg (by rw [q.2.2]; decide)] at b9
                      exact absurd rfl b9))
               refine v_sub (L' := [(3, _), (2, _), (1, _), (0, _)]) [0, 1, 3, 4] rfl ?_
               rw [nI_clamp (show (ddI (decide (fl = 0)) E ix k).length < 2 ^ 31 by omega)]
               have n8 : ((ddI (decide (fl = 0)) E ix k) ++ [ix.getD k 0]).length = (ddI (decide (fl = 0)) E ix k).length + 1 := List.length_append
               have hh := ih (k + 1) (va_up h (b + 258) (some (.inl (G.2.2.1 0, 1500, .inl (upd ord (ddI (decide (fl = 0)) E ix k).length (nI (ix.getD k 0))))))) (upd ord (ddI (decide (fl = 0)) E ix k).length (nI (ix.getD k 0))) (by omega)
               rw [e8, n8] at hh
               refine hh sv_us (fun j hj => ?_) (fun j q1 q2 => (if_neg (by omega)).trans (a3 j (by omega) q2)) (fun a p => (sv_un p).trans (fr a p))
               by_cases e9 : j = (ddI (decide (fl = 0)) E ix k).length
               · rw [e9, gA_e]; exact if_pos rfl
               · rw [gA_l _ (by omega)]; exact (if_neg e9).trans (a2 j (by omega)))
      · refine v_iload_n dX13_arrange_100 rfl 1 rfl ?_
        refine v_if_le (tgt := 129) dX13_arrange_101 (by decide) (fun c_101 => ?_) (fun c_101 => ?_)
        · refine v_iconst (v := 0) dX13_arrange_129 (by decide) ?_
          refine v_istore (L' := [(4, _), (3, _), (2, _), (1, _), (0, _)]) dX13_arrange_130 (Nat.le_of_ble_eq_true rfl) rfl ?_
          refine v_iload dX13_arrange_132 0 rfl ?_
          refine v_if_ne (tgt := 152) dX13_arrange_134 (by decide) (fun c_134 => ?_) (fun c_134 => ?_)
          · refine v_iinc (j := 1) (L' := [(3, _), (4, _), (2, _), (1, _), (0, _)]) (v := nI (k + 1)) dX13_arrange_152 rfl (nI_1 _) (Nat.le_of_ble_eq_true rfl) rfl ?_
            refine v_goto (tgt := 88) dX13_arrange_155 (by decide) ?_
            first
              | exact absurd c_134 (by decide)
              | exact absurd rfl c_134
              | (have b9 := c_122
                 have e8 : (ddI (decide (fl = 0)) E ix (k + 1)) = (ddI (decide (fl = 0)) E ix k) := if_pos ⟨decide_eq_true c_97, by omega, by
                   by_cases l9 : leR (decide (fl = 0)) (E.getD (ix.getD k 0) []) (E.getD ((ddI (decide (fl = 0)) E ix k).getD ((ddI (decide (fl = 0)) E ix k).length - 1) 0) []) = true
                   · exact l9
                   · unfold bfR at b9
                     rw [if_pos (by rw [Bool.eq_false_iff.mpr l9]; rfl)] at b9
                     exact absurd b9 (by decide)⟩
                 refine v_sub (L' := [(3, _), (2, _), (1, _), (0, _)]) [0, 2, 3, 4] rfl ?_
                 have hh := ih (k + 1) h ord (by omega)
                 rw [e8] at hh
                 exact hh a1 a2 (fun j q1 q2 => a3 j (by omega) q2) fr)
              | (have e8 : (ddI (decide (fl = 0)) E ix (k + 1)) = (ddI (decide (fl = 0)) E ix k) ++ [ix.getD k 0] := if_neg (fun q => by
                   first
                     | exact c_97 (of_decide_eq_true q.1)
                     | exact q.2.1 (nI_z c_101 (by omega))
                     | (have b9 := c_122
                        unfold bfR at b9
                        rw [if_neg (by rw [q.2.2]; decide)] at b9
                        exact absurd rfl b9))
                 refine v_sub (L' := [(3, _), (2, _), (1, _), (0, _)]) [0, 2, 3, 4] rfl ?_
                 rw [nI_clamp (show (ddI (decide (fl = 0)) E ix k).length < 2 ^ 31 by omega)]
                 have n8 : ((ddI (decide (fl = 0)) E ix k) ++ [ix.getD k 0]).length = (ddI (decide (fl = 0)) E ix k).length + 1 := List.length_append
                 have hh := ih (k + 1) (va_up h (b + 258) (some (.inl (G.2.2.1 0, 1500, .inl (upd ord (ddI (decide (fl = 0)) E ix k).length (nI (ix.getD k 0))))))) (upd ord (ddI (decide (fl = 0)) E ix k).length (nI (ix.getD k 0))) (by omega)
                 rw [e8, n8] at hh
                 refine hh sv_us (fun j hj => ?_) (fun j q1 q2 => (if_neg (by omega)).trans (a3 j (by omega) q2)) (fun a p => (sv_un p).trans (fr a p))
                 by_cases e9 : j = (ddI (decide (fl = 0)) E ix k).length
                 · rw [e9, gA_e]; exact if_pos rfl
                 · rw [gA_l _ (by omega)]; exact (if_neg e9).trans (a2 j (by omega)))
          · refine v_aload_n dX13_arrange_137 rfl 4 rfl ?_
            refine v_getf 63 (ci := 11) (C := RX13) (T := TX13) (N := 71) rfl iwX13_arrange_X13 (Nat.le_of_ble_eq_true rfl) (by decide +kernel) dX13_arrange_138 (by repeat (first | with_reducible assumption | (with_reducible refine sv_us.trans ?_; exact rfl) | with_reducible refine (sv_un (by omega)).trans ?_)) (by repeat (first | with_reducible assumption | (with_reducible refine (sv_ls (by first | omega | (simp only [List.length_set]; omega))).trans ?_; exact rfl) | with_reducible refine (List.getElem?_set_ne (by decide)).trans ?_)) ?_
            refine v_iload_n dX13_arrange_141 rfl 2 rfl ?_
            refine v_aload_n dX13_arrange_142 rfl 4 rfl ?_
            refine v_getf 63 (ci := 11) (C := RX13) (T := TX13) (N := 71) rfl iwX13_arrange_X13 (Nat.le_of_ble_eq_true rfl) (by decide +kernel) dX13_arrange_143 (by repeat (first | with_reducible assumption | (with_reducible refine sv_us.trans ?_; exact rfl) | with_reducible refine (sv_un (by omega)).trans ?_)) (by repeat (first | with_reducible assumption | (with_reducible refine (sv_ls (by first | omega | (simp only [List.length_set]; omega))).trans ?_; exact rfl) | with_reducible refine (List.getElem?_set_ne (by decide)).trans ?_)) ?_
            refine v_iload_n dX13_arrange_146 rfl 1 rfl ?_
            refine v_ialdS (v := nI (ix.getD k 0)) dX13_arrange_147 (by repeat (first | with_reducible assumption | (with_reducible refine sv_us.trans ?_; exact rfl) | with_reducible refine (sv_un (by omega)).trans ?_)) (vp_in_nI (by omega) (by omega)) (by rw [nI_clamp (by omega)]; exact a3 k (Nat.le_refl k) hk1) ?_
            refine v_iast dX13_arrange_148 (by repeat (first | with_reducible assumption | (with_reducible refine sv_us.trans ?_; exact rfl) | with_reducible refine (sv_un (by omega)).trans ?_)) (vp_in_nI (by omega) (by omega)) ?_
            refine v_iinc (j := 2) (L' := [(2, _), (4, _), (3, _), (1, _), (0, _)]) (v := nI ((ddI (decide (fl = 0)) E ix k).length + 1)) dX13_arrange_149 rfl (nI_1 _) (Nat.le_of_ble_eq_true rfl) rfl ?_
            refine v_iinc (j := 2) (L' := [(3, _), (2, _), (4, _), (1, _), (0, _)]) (v := nI (k + 1)) dX13_arrange_152 rfl (nI_1 _) (Nat.le_of_ble_eq_true rfl) rfl ?_
            refine v_goto (tgt := 88) dX13_arrange_155 (by decide) ?_
            first
              | exact absurd c_134 (by decide)
              | exact absurd rfl c_134
              | (have b9 := c_122
                 have e8 : (ddI (decide (fl = 0)) E ix (k + 1)) = (ddI (decide (fl = 0)) E ix k) := if_pos ⟨decide_eq_true c_97, by omega, by
                   by_cases l9 : leR (decide (fl = 0)) (E.getD (ix.getD k 0) []) (E.getD ((ddI (decide (fl = 0)) E ix k).getD ((ddI (decide (fl = 0)) E ix k).length - 1) 0) []) = true
                   · exact l9
                   · unfold bfR at b9
                     rw [if_pos (by rw [Bool.eq_false_iff.mpr l9]; rfl)] at b9
                     exact absurd b9 (by decide)⟩
                 refine v_sub (L' := [(3, _), (2, _), (1, _), (0, _)]) [0, 1, 3, 4] rfl ?_
                 have hh := ih (k + 1) h ord (by omega)
                 rw [e8] at hh
                 exact hh a1 a2 (fun j q1 q2 => a3 j (by omega) q2) fr)
              | (have e8 : (ddI (decide (fl = 0)) E ix (k + 1)) = (ddI (decide (fl = 0)) E ix k) ++ [ix.getD k 0] := if_neg (fun q => by
                   first
                     | exact c_97 (of_decide_eq_true q.1)
                     | exact q.2.1 (nI_z c_101 (by omega))
                     | (have b9 := c_122
                        unfold bfR at b9
                        rw [if_neg (by rw [q.2.2]; decide)] at b9
                        exact absurd rfl b9))
                 refine v_sub (L' := [(3, _), (2, _), (1, _), (0, _)]) [0, 1, 3, 4] rfl ?_
                 rw [nI_clamp (show (ddI (decide (fl = 0)) E ix k).length < 2 ^ 31 by omega)]
                 have n8 : ((ddI (decide (fl = 0)) E ix k) ++ [ix.getD k 0]).length = (ddI (decide (fl = 0)) E ix k).length + 1 := List.length_append
                 have hh := ih (k + 1) (va_up h (b + 258) (some (.inl (G.2.2.1 0, 1500, .inl (upd ord (ddI (decide (fl = 0)) E ix k).length (nI (ix.getD k 0))))))) (upd ord (ddI (decide (fl = 0)) E ix k).length (nI (ix.getD k 0))) (by omega)
                 rw [e8, n8] at hh
                 refine hh sv_us (fun j hj => ?_) (fun j q1 q2 => (if_neg (by omega)).trans (a3 j (by omega) q2)) (fun a p => (sv_un p).trans (fr a p))
                 by_cases e9 : j = (ddI (decide (fl = 0)) E ix k).length
                 · rw [e9, gA_e]; exact if_pos rfl
                 · rw [gA_l _ (by omega)]; exact (if_neg e9).trans (a2 j (by omega)))
        · have h0 : 0 < (ddI (decide (fl = 0)) E ix k).length := Nat.pos_of_ne_zero (fun e9 => c_101 (by rw [e9]; decide))
          have hy2 := hy1 h0
          refine v_aload_n dX13_arrange_104 rfl 3 rfl ?_
          refine v_aload_n dX13_arrange_105 rfl 3 rfl ?_
          refine v_getf 63 (ci := 11) (C := RX13) (T := TX13) (N := 71) rfl iwX13_arrange_X13 (Nat.le_of_ble_eq_true rfl) (by decide +kernel) dX13_arrange_106 (by repeat (first | with_reducible assumption | (with_reducible refine sv_us.trans ?_; exact rfl) | with_reducible refine (sv_un (by omega)).trans ?_)) (by repeat (first | with_reducible assumption | (with_reducible refine (sv_ls (by first | omega | (simp only [List.length_set]; omega))).trans ?_; exact rfl) | with_reducible refine (List.getElem?_set_ne (by decide)).trans ?_)) ?_
          refine v_iload_n dX13_arrange_109 rfl 1 rfl ?_
          refine v_iconst (v := 1) dX13_arrange_110 (by decide) ?_
          refine v_isub dX13_arrange_111 ?_
          rw [show nI (ddI (decide (fl = 0)) E ix k).length - 1 = nI ((ddI (decide (fl = 0)) E ix k).length - 1) from by rw [show nI (ddI (decide (fl = 0)) E ix k).length = nI (((ddI (decide (fl = 0)) E ix k).length - 1) + 1) from congrArg nI (by omega), nI_s1]]
          refine v_ialdS (v := nI ((ddI (decide (fl = 0)) E ix k).getD ((ddI (decide (fl = 0)) E ix k).length - 1) 0)) dX13_arrange_112 (by repeat (first | with_reducible assumption | (with_reducible refine sv_us.trans ?_; exact rfl) | with_reducible refine (sv_un (by omega)).trans ?_)) (vp_in_nI (by omega) (by omega)) (by rw [nI_clamp (by omega)]; exact a2 _ (by omega)) ?_
          refine v_aload_n dX13_arrange_113 rfl 3 rfl ?_
          refine v_getf 63 (ci := 11) (C := RX13) (T := TX13) (N := 71) rfl iwX13_arrange_X13 (Nat.le_of_ble_eq_true rfl) (by decide +kernel) dX13_arrange_114 (by repeat (first | with_reducible assumption | (with_reducible refine sv_us.trans ?_; exact rfl) | with_reducible refine (sv_un (by omega)).trans ?_)) (by repeat (first | with_reducible assumption | (with_reducible refine (sv_ls (by first | omega | (simp only [List.length_set]; omega))).trans ?_; exact rfl) | with_reducible refine (List.getElem?_set_ne (by decide)).trans ?_)) ?_
          refine v_iload_n dX13_arrange_117 rfl 0 rfl ?_
          refine v_ialdS (v := nI (ix.getD k 0)) dX13_arrange_118 (by repeat (first | with_reducible assumption | (with_reducible refine sv_us.trans ?_; exact rfl) | with_reducible refine (sv_un (by omega)).trans ?_)) (vp_in_nI (by omega) (by omega)) (by rw [nI_clamp (by omega)]; exact a3 k (Nat.le_refl k) hk1) ?_
          refine v_callVq (M' := mX13_isBefore) (n := 2) (As := [_, _]) (ci := 11) (r := (RX13, TX13, 71)) gX13_arrange_X13_isBefore rfl (by decide +kernel) ⟨(Nat.le_of_ble_eq_true rfl), (Nat.le_of_ble_eq_true rfl)⟩ rfl rfl dX13_arrange_119 rfl ⟨(Nat.le_of_ble_eq_true rfl), (Nat.le_of_ble_eq_true rfl)⟩ (Nat.le_of_ble_eq_true rfl) (by repeat (first | with_reducible assumption | (with_reducible refine sv_us.trans ?_; exact rfl) | with_reducible refine (sv_un (by omega)).trans ?_)) rfl (m_isBefore G _ b nc np pl h fs0 hq0 hm9 fl h59 gt w241 ((ddI (decide (fl = 0)) E ix k).getD ((ddI (decide (fl = 0)) E ix k).length - 1) 0) (ix.getD k 0) (by omega) (by omega) (E.getD ((ddI (decide (fl = 0)) E ix k).getD ((ddI (decide (fl = 0)) E ix k).length - 1) 0) []) (E.getD (ix.getD k 0) []) (tg _ hy2) (tg _ hx1)) (fun v9 h9 y9 hq => v_pq hq ?_)
          refine v_if_ne (tgt := 129) dX13_arrange_122 (by decide) (fun c_122 => ?_) (fun c_122 => ?_)
          · refine v_iconst (v := 0) dX13_arrange_129 (by decide) ?_
            refine v_istore (L' := [(4, _), (3, _), (2, _), (1, _), (0, _)]) dX13_arrange_130 (Nat.le_of_ble_eq_true rfl) rfl ?_
            refine v_iload dX13_arrange_132 0 rfl ?_
            refine v_if_ne (tgt := 152) dX13_arrange_134 (by decide) (fun c_134 => ?_) (fun c_134 => ?_)
            · refine v_iinc (j := 1) (L' := [(3, _), (4, _), (2, _), (1, _), (0, _)]) (v := nI (k + 1)) dX13_arrange_152 rfl (nI_1 _) (Nat.le_of_ble_eq_true rfl) rfl ?_
              refine v_goto (tgt := 88) dX13_arrange_155 (by decide) ?_
              first
                | exact absurd c_134 (by decide)
                | exact absurd rfl c_134
                | (have b9 := c_122
                   have e8 : (ddI (decide (fl = 0)) E ix (k + 1)) = (ddI (decide (fl = 0)) E ix k) := if_pos ⟨decide_eq_true c_97, by omega, by
                     by_cases l9 : leR (decide (fl = 0)) (E.getD (ix.getD k 0) []) (E.getD ((ddI (decide (fl = 0)) E ix k).getD ((ddI (decide (fl = 0)) E ix k).length - 1) 0) []) = true
                     · exact l9
                     · unfold bfR at b9
                       rw [if_pos (by rw [Bool.eq_false_iff.mpr l9]; rfl)] at b9
                       exact absurd b9 (by decide)⟩
                   refine v_sub (L' := [(3, _), (2, _), (1, _), (0, _)]) [0, 2, 3, 4] rfl ?_
                   have hh := ih (k + 1) h ord (by omega)
                   rw [e8] at hh
                   exact hh a1 a2 (fun j q1 q2 => a3 j (by omega) q2) fr)
                | (have e8 : (ddI (decide (fl = 0)) E ix (k + 1)) = (ddI (decide (fl = 0)) E ix k) ++ [ix.getD k 0] := if_neg (fun q => by
                     first
                       | exact c_97 (of_decide_eq_true q.1)
                       | exact q.2.1 (nI_z c_101 (by omega))
                       | (have b9 := c_122
                          unfold bfR at b9
                          rw [if_neg (by rw [q.2.2]; decide)] at b9
                          exact absurd rfl b9))
                   refine v_sub (L' := [(3, _), (2, _), (1, _), (0, _)]) [0, 2, 3, 4] rfl ?_
                   rw [nI_clamp (show (ddI (decide (fl = 0)) E ix k).length < 2 ^ 31 by omega)]
                   have n8 : ((ddI (decide (fl = 0)) E ix k) ++ [ix.getD k 0]).length = (ddI (decide (fl = 0)) E ix k).length + 1 := List.length_append
                   have hh := ih (k + 1) (va_up h (b + 258) (some (.inl (G.2.2.1 0, 1500, .inl (upd ord (ddI (decide (fl = 0)) E ix k).length (nI (ix.getD k 0))))))) (upd ord (ddI (decide (fl = 0)) E ix k).length (nI (ix.getD k 0))) (by omega)
                   rw [e8, n8] at hh
                   refine hh sv_us (fun j hj => ?_) (fun j q1 q2 => (if_neg (by omega)).trans (a3 j (by omega) q2)) (fun a p => (sv_un p).trans (fr a p))
                   by_cases e9 : j = (ddI (decide (fl = 0)) E ix k).length
                   · rw [e9, gA_e]; exact if_pos rfl
                   · rw [gA_l _ (by omega)]; exact (if_neg e9).trans (a2 j (by omega)))
            · refine v_aload_n dX13_arrange_137 rfl 4 rfl ?_
              refine v_getf 63 (ci := 11) (C := RX13) (T := TX13) (N := 71) rfl iwX13_arrange_X13 (Nat.le_of_ble_eq_true rfl) (by decide +kernel) dX13_arrange_138 (by repeat (first | with_reducible assumption | (with_reducible refine sv_us.trans ?_; exact rfl) | with_reducible refine (sv_un (by omega)).trans ?_)) (by repeat (first | with_reducible assumption | (with_reducible refine (sv_ls (by first | omega | (simp only [List.length_set]; omega))).trans ?_; exact rfl) | with_reducible refine (List.getElem?_set_ne (by decide)).trans ?_)) ?_
              refine v_iload_n dX13_arrange_141 rfl 2 rfl ?_
              refine v_aload_n dX13_arrange_142 rfl 4 rfl ?_
              refine v_getf 63 (ci := 11) (C := RX13) (T := TX13) (N := 71) rfl iwX13_arrange_X13 (Nat.le_of_ble_eq_true rfl) (by decide +kernel) dX13_arrange_143 (by repeat (first | with_reducible assumption | (with_reducible refine sv_us.trans ?_; exact rfl) | with_reducible refine (sv_un (by omega)).trans ?_)) (by repeat (first | with_reducible assumption | (with_reducible refine (sv_ls (by first | omega | (simp only [List.length_set]; omega))).trans ?_; exact rfl) | with_reducible refine (List.getElem?_set_ne (by decide)).trans ?_)) ?_
              refine v_iload_n dX13_arrange_146 rfl 1 rfl ?_
              refine v_ialdS (v := nI (ix.getD k 0)) dX13_arrange_147 (by repeat (first | with_reducible assumption | (with_reducible refine sv_us.trans ?_; exact rfl) | with_reducible refine (sv_un (by omega)).trans ?_)) (vp_in_nI (by omega) (by omega)) (by rw [nI_clamp (by omega)]; exact a3 k (Nat.le_refl k) hk1) ?_
              refine v_iast dX13_arrange_148 (by repeat (first | with_reducible assumption | (with_reducible refine sv_us.trans ?_; exact rfl) | with_reducible refine (sv_un (by omega)).trans ?_)) (vp_in_nI (by omega) (by omega)) ?_
              refine v_iinc (j := 2) (L' := [(2, _), (4, _), (3, _), (1, _), (0, _)]) (v := nI ((ddI (decide (fl = 0)) E ix k).length + 1)) dX13_arrange_149 rfl (nI_1 _) (Nat.le_of_ble_eq_true rfl) rfl ?_
              refine v_iinc (j := 2) (L' := [(3, _), (2, _), (4, _), (1, _), (0, _)]) (v := nI (k + 1)) dX13_arrange_152 rfl (nI_1 _) (Nat.le_of_ble_eq_true rfl) rfl ?_
              refine v_goto (tgt := 88) dX13_arrange_155 (by decide) ?_
              first
                | exact absurd c_134 (by decide)
                | exact absurd rfl c_134
                | (have b9 := c_122
                   have e8 : (ddI (decide (fl = 0)) E ix (k + 1)) = (ddI (decide (fl = 0)) E ix k) := if_pos ⟨decide_eq_true c_97, by omega, by
                     by_cases l9 : leR (decide (fl = 0)) (E.getD (ix.getD k 0) []) (E.getD ((ddI (decide (fl = 0)) E ix k).getD ((ddI (decide (fl = 0)) E ix k).length - 1) 0) []) = true
                     · exact l9
                     · unfold bfR at b9
                       rw [if_pos (by rw [Bool.eq_false_iff.mpr l9]; rfl)] at b9
                       exact absurd b9 (by decide)⟩
                   refine v_sub (L' := [(3, _), (2, _), (1, _), (0, _)]) [0, 1, 3, 4] rfl ?_
                   have hh := ih (k + 1) h ord (by omega)
                   rw [e8] at hh
                   exact hh a1 a2 (fun j q1 q2 => a3 j (by omega) q2) fr)
                | (have e8 : (ddI (decide (fl = 0)) E ix (k + 1)) = (ddI (decide (fl = 0)) E ix k) ++ [ix.getD k 0] := if_neg (fun q => by
                     first
                       | exact c_97 (of_decide_eq_true q.1)
                       | exact q.2.1 (nI_z c_101 (by omega))
                       | (have b9 := c_122
                          unfold bfR at b9
                          rw [if_neg (by rw [q.2.2]; decide)] at b9
                          exact absurd rfl b9))
                   refine v_sub (L' := [(3, _), (2, _), (1, _), (0, _)]) [0, 1, 3, 4] rfl ?_
                   rw [nI_clamp (show (ddI (decide (fl = 0)) E ix k).length < 2 ^ 31 by omega)]
                   have n8 : ((ddI (decide (fl = 0)) E ix k) ++ [ix.getD k 0]).length = (ddI (decide (fl = 0)) E ix k).length + 1 := List.length_append
                   have hh := ih (k + 1) (va_up h (b + 258) (some (.inl (G.2.2.1 0, 1500, .inl (upd ord (ddI (decide (fl = 0)) E ix k).length (nI (ix.getD k 0))))))) (upd ord (ddI (decide (fl = 0)) E ix k).length (nI (ix.getD k 0))) (by omega)
                   rw [e8, n8] at hh
                   refine hh sv_us (fun j hj => ?_) (fun j q1 q2 => (if_neg (by omega)).trans (a3 j (by omega) q2)) (fun a p => (sv_un p).trans (fr a p))
                   by_cases e9 : j = (ddI (decide (fl = 0)) E ix k).length
                   · rw [e9, gA_e]; exact if_pos rfl
                   · rw [gA_l _ (by omega)]; exact (if_neg e9).trans (a2 j (by omega)))
          · refine v_iconst (v := 1) dX13_arrange_125 (by decide) ?_
            refine v_goto (tgt := 130) dX13_arrange_126 (by decide) ?_
            refine v_istore (L' := [(4, _), (3, _), (2, _), (1, _), (0, _)]) dX13_arrange_130 (Nat.le_of_ble_eq_true rfl) rfl ?_
            refine v_iload dX13_arrange_132 0 rfl ?_
            refine v_if_ne (tgt := 152) dX13_arrange_134 (by decide) (fun c_134 => ?_) (fun c_134 => ?_)
            · refine v_iinc (j := 1) (L' := [(3, _), (4, _), (2, _), (1, _), (0, _)]) (v := nI (k + 1)) dX13_arrange_152 rfl (nI_1 _) (Nat.le_of_ble_eq_true rfl) rfl ?_
              refine v_goto (tgt := 88) dX13_arrange_155 (by decide) ?_
              first
                | exact absurd c_134 (by decide)
                | exact absurd rfl c_134
                | (have b9 := c_122
                   have e8 : (ddI (decide (fl = 0)) E ix (k + 1)) = (ddI (decide (fl = 0)) E ix k) := if_pos ⟨decide_eq_true c_97, by omega, by
                     by_cases l9 : leR (decide (fl = 0)) (E.getD (ix.getD k 0) []) (E.getD ((ddI (decide (fl = 0)) E ix k).getD ((ddI (decide (fl = 0)) E ix k).length - 1) 0) []) = true
                     · exact l9
                     · unfold bfR at b9
                       rw [if_pos (by rw [Bool.eq_false_iff.mpr l9]; rfl)] at b9
                       exact absurd b9 (by decide)⟩
                   refine v_sub (L' := [(3, _), (2, _), (1, _), (0, _)]) [0, 2, 3, 4] rfl ?_
                   have hh := ih (k + 1) h ord (by omega)
                   rw [e8] at hh
                   exact hh a1 a2 (fun j q1 q2 => a3 j (by omega) q2) fr)
                | (have e8 : (ddI (decide (fl = 0)) E ix (k + 1)) = (ddI (decide (fl = 0)) E ix k) ++ [ix.getD k 0] := if_neg (fun q => by
                     first
                       | exact c_97 (of_decide_eq_true q.1)
                       | exact q.2.1 (nI_z c_101 (by omega))
                       | (have b9 := c_122
                          unfold bfR at b9
                          rw [if_neg (by rw [q.2.2]; decide)] at b9
                          exact absurd rfl b9))
                   refine v_sub (L' := [(3, _), (2, _), (1, _), (0, _)]) [0, 2, 3, 4] rfl ?_
                   rw [nI_clamp (show (ddI (decide (fl = 0)) E ix k).length < 2 ^ 31 by omega)]
                   have n8 : ((ddI (decide (fl = 0)) E ix k) ++ [ix.getD k 0]).length = (ddI (decide (fl = 0)) E ix k).length + 1 := List.length_append
                   have hh := ih (k + 1) (va_up h (b + 258) (some (.inl (G.2.2.1 0, 1500, .inl (upd ord (ddI (decide (fl = 0)) E ix k).length (nI (ix.getD k 0))))))) (upd ord (ddI (decide (fl = 0)) E ix k).length (nI (ix.getD k 0))) (by omega)
                   rw [e8, n8] at hh
                   refine hh sv_us (fun j hj => ?_) (fun j q1 q2 => (if_neg (by omega)).trans (a3 j (by omega) q2)) (fun a p => (sv_un p).trans (fr a p))
                   by_cases e9 : j = (ddI (decide (fl = 0)) E ix k).length
                   · rw [e9, gA_e]; exact if_pos rfl
                   · rw [gA_l _ (by omega)]; exact (if_neg e9).trans (a2 j (by omega)))
            · refine v_aload_n dX13_arrange_137 rfl 4 rfl ?_
              refine v_getf 63 (ci := 11) (C := RX13) (T := TX13) (N := 71) rfl iwX13_arrange_X13 (Nat.le_of_ble_eq_true rfl) (by decide +kernel) dX13_arrange_138 (by repeat (first | with_reducible assumption | (with_reducible refine sv_us.trans ?_; exact rfl) | with_reducible refine (sv_un (by omega)).trans ?_)) (by repeat (first | with_reducible assumption | (with_reducible refine (sv_ls (by first | omega | (simp only [List.length_set]; omega))).trans ?_; exact rfl) | with_reducible refine (List.getElem?_set_ne (by decide)).trans ?_)) ?_
              refine v_iload_n dX13_arrange_141 rfl 2 rfl ?_
              refine v_aload_n dX13_arrange_142 rfl 4 rfl ?_
              refine v_getf 63 (ci := 11) (C := RX13) (T := TX13) (N := 71) rfl iwX13_arrange_X13 (Nat.le_of_ble_eq_true rfl) (by decide +kernel) dX13_arrange_143 (by repeat (first | with_reducible assumption | (with_reducible refine sv_us.trans ?_; exact rfl) | with_reducible refine (sv_un (by omega)).trans ?_)) (by repeat (first | with_reducible assumption | (with_reducible refine (sv_ls (by first | omega | (simp only [List.length_set]; omega))).trans ?_; exact rfl) | with_reducible refine (List.getElem?_set_ne (by decide)).trans ?_)) ?_
              refine v_iload_n dX13_arrange_146 rfl 1 rfl ?_
              refine v_ialdS (v := nI (ix.getD k 0)) dX13_arrange_147 (by repeat (first | with_reducible assumption | (with_reducible refine sv_us.trans ?_; exact rfl) | with_reducible refine (sv_un (by omega)).trans ?_)) (vp_in_nI (by omega) (by omega)) (by rw [nI_clamp (by omega)]; exact a3 k (Nat.le_refl k) hk1) ?_
              refine v_iast dX13_arrange_148 (by repeat (first | with_reducible assumption | (with_reducible refine sv_us.trans ?_; exact rfl) | with_reducible refine (sv_un (by omega)).trans ?_)) (vp_in_nI (by omega) (by omega)) ?_
              refine v_iinc (j := 2) (L' := [(2, _), (4, _), (3, _), (1, _), (0, _)]) (v := nI ((ddI (decide (fl = 0)) E ix k).length + 1)) dX13_arrange_149 rfl (nI_1 _) (Nat.le_of_ble_eq_true rfl) rfl ?_
              refine v_iinc (j := 2) (L' := [(3, _), (2, _), (4, _), (1, _), (0, _)]) (v := nI (k + 1)) dX13_arrange_152 rfl (nI_1 _) (Nat.le_of_ble_eq_true rfl) rfl ?_
              refine v_goto (tgt := 88) dX13_arrange_155 (by decide) ?_
              first
                | exact absurd c_134 (by decide)
                | exact absurd rfl c_134
                | (have b9 := c_122
                   have e8 : (ddI (decide (fl = 0)) E ix (k + 1)) = (ddI (decide (fl = 0)) E ix k) := if_pos ⟨decide_eq_true c_97, by omega, by
                     by_cases l9 : leR (decide (fl = 0)) (E.getD (ix.getD k 0) []) (E.getD ((ddI (decide (fl = 0)) E ix k).getD ((ddI (decide (fl = 0)) E ix k).length - 1) 0) []) = true
                     · exact l9
                     · unfold bfR at b9
                       rw [if_pos (by rw [Bool.eq_false_iff.mpr l9]; rfl)] at b9
                       exact absurd b9 (by decide)⟩
                   refine v_sub (L' := [(3, _), (2, _), (1, _), (0, _)]) [0, 1, 3, 4] rfl ?_
                   have hh := ih (k + 1) h ord (by omega)
                   rw [e8] at hh
                   exact hh a1 a2 (fun j q1 q2 => a3 j (by omega) q2) fr)
                | (have e8 : (ddI (decide (fl = 0)) E ix (k + 1)) = (ddI (decide (fl = 0)) E ix k) ++ [ix.getD k 0] := if_neg (fun q => by
                     first
                       | exact c_97 (of_decide_eq_true q.1)
                       | exact q.2.1 (nI_z c_101 (by omega))
                       | (have b9 := c_122
                          unfold bfR at b9
                          rw [if_neg (by rw [q.2.2]; decide)] at b9
                          exact absurd rfl b9))
                   refine v_sub (L' := [(3, _), (2, _), (1, _), (0, _)]) [0, 1, 3, 4] rfl ?_
                   rw [nI_clamp (show (ddI (decide (fl = 0)) E ix k).length < 2 ^ 31 by omega)]
                   have n8 : ((ddI (decide (fl = 0)) E ix k) ++ [ix.getD k 0]).length = (ddI (decide (fl = 0)) E ix k).length + 1 := List.length_append
                   have hh := ih (k + 1) (va_up h (b + 258) (some (.inl (G.2.2.1 0, 1500, .inl (upd ord (ddI (decide (fl = 0)) E ix k).length (nI (ix.getD k 0))))))) (upd ord (ddI (decide (fl = 0)) E ix k).length (nI (ix.getD k 0))) (by omega)
                   rw [e8, n8] at hh
                   refine hh sv_us (fun j hj => ?_) (fun j q1 q2 => (if_neg (by omega)).trans (a3 j (by omega) q2)) (fun a p => (sv_un p).trans (fr a p))
                   by_cases e9 : j = (ddI (decide (fl = 0)) E ix k).length
                   · rw [e9, gA_e]; exact if_pos rfl
                   · rw [gA_l _ (by omega)]; exact (if_neg e9).trans (a2 j (by omega)))

set_option maxHeartbeats 4000000 in
set_option maxRecDepth 100000 in
theorem m_arrange (G : sv_G) (z b nc np pl : Nat) (hb : sv_h) (fs0 : List Value) (hq0 : mfq_ b nc np pl fs0) (hm0 : hb (b + 220) = some (.inr (11, fs0))) (fl : Int32) (h59 : fs0[59]? = some (.int fl)) (E : List (List Int64)) (hE15 : E.length ≤ 1500) (T : mT_ gu G hb b fs0 E) (nw : Nat) (hnw : nw ≤ 40) (h33 : fs0[33]? = some (.int (nI nw))) (rl : Int32) (h58 : fs0[58]? = some (.int rl)) (wr wf : Nat → Int64) (w42 : ab_J G hb (b + 242) 320 wf) (hwr : ∀ k, k < nw → ∀ j, j < 8 → wf (8 * k + ab_wc j) = wr (8 * k + j)) (ord0 : Nat → Int32) (A58 : ab_I G hb (b + 258) 1500 ord0) : CT G mX13_arrange [.ref (b + 220)] hb z (fun v h1 z1 => z1 = z ∧ (∀ a, a ≠ b + 258 → h1 a = hb a) ∧ ∃ (ord : Nat → Int32) (ix : List Nat), ix.Perm ((List.range E.length).filter (fun x => !cvB wr nw rl (E.getD x []))) ∧ srt (decide (fl = 0)) E ix ∧ ab_I G h1 (b + 258) 1500 ord ∧ v = some (.int (nI (ddI (decide (fl = 0)) E ix ix.length).length)) ∧ ∀ j, j < (ddI (decide (fl = 0)) E ix ix.length).length → ord j = nI ((ddI (decide (fl = 0)) E ix ix.length).getD j 0)) := by
  refine CT.of (by decide +kernel) rfl rfl (Nat.le_of_ble_eq_true rfl) ?_
  refine v_iconst (v := 0) dX13_arrange_0 (by decide) ?_
  refine v_istore_n (L' := [(1, _), (0, _)]) dX13_arrange_1 rfl (Nat.le_of_ble_eq_true rfl) rfl ?_
  refine v_iconst (v := 0) dX13_arrange_2 (by decide) ?_
  refine v_istore_n (L' := [(2, _), (1, _), (0, _)]) dX13_arrange_3 rfl (Nat.le_of_ble_eq_true rfl) rfl ?_
  refine v_sub (L' := [(2, _), (1, _), (0, _)]) [0, 1, 2] rfl ?_
  refine l_arO G _ _ b nc np pl hb fs0 hq0 hm0 fl h59 E hE15 T nw hnw h33 rl h58 wr wf w42 hwr (fun h2 ord2 ix v1 v2 v3 v4 v5 => ?_) E.length 0 hb ord0 [] (Nat.zero_add _) (List.Perm.refl _) List.Pairwise.nil A58 (fun j hj => absurd hj (Nat.not_lt_zero j)) (fun _ _ => rfl)
  refine v_iconst (v := 0) dX13_arrange_84 (by decide) ?_
  refine v_istore_n (L' := [(2, _), (1, _), (0, _)]) dX13_arrange_85 rfl (Nat.le_of_ble_eq_true rfl) rfl ?_
  refine v_iconst (v := 0) dX13_arrange_86 (by decide) ?_
  refine v_istore_n (L' := [(3, _), (2, _), (1, _), (0, _)]) dX13_arrange_87 rfl (Nat.le_of_ble_eq_true rfl) rfl ?_
  refine v_sub (L' := [(3, _), (2, _), (1, _), (0, _)]) [0, 1, 2, 3] rfl ?_
  have hxi : ∀ x, x ∈ ix → x < E.length := fun x hx => List.mem_range.mp (List.mem_filter.mp (v1.mem_iff.mp hx)).1
  have hix : ix.length ≤ E.length := (by
    have q := List.length_filter_le (fun x => !cvB wr nw rl (E.getD x [])) (List.range E.length)
    rw [← v1.length_eq, List.length_range] at q
    exact q)
  exact l_arK G _ _ b nc np pl hb fs0 hq0 hm0 fl h59 E hE15 T nw hnw h33 rl h58 wr wf w42 hwr ix hxi (by omega) (fun h3 ord3 p1 p2 p3_ => ⟨rfl, p3_, ord3, ix, v1, v2, p1, rfl, p2⟩) ix.length 0 h2 ord2 (Nat.zero_add _) v3 (fun j hj => absurd hj (Nat.not_lt_zero j)) (fun j _ q2 => v4 j q2) v5

end GU
