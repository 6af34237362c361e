theorem iwX13_cellAt_X13 : ∀ w ∈ wsX130, w ∈ wsX13_cellAt := by decide +kernel
theorem iwX13_take_X13 : ∀ w ∈ wsX130, w ∈ wsX13_take := by decide +kernel
theorem dX13_cellAt_0 : decode cX13_cellAt 0 = .ok (.aload_n 0, 1) := by decide +kernel
theorem dX13_cellAt_1 : decode cX13_cellAt 1 = .ok (.getfield 205, 3) := by decide +kernel
theorem dX13_cellAt_4 : decode cX13_cellAt 4 = .ok (.ifCond .ne 7, 3) := by decide +kernel
theorem dX13_cellAt_7 : decode cX13_cellAt 7 = .ok (.iload_n 1, 1) := by decide +kernel
theorem dX13_cellAt_8 : decode cX13_cellAt 8 = .ok (.goto 19, 3) := by decide +kernel
theorem dX13_cellAt_11 : decode cX13_cellAt 11 = .ok (.aload_n 0, 1) := by decide +kernel
theorem dX13_cellAt_12 : decode cX13_cellAt 12 = .ok (.getfield 32, 3) := by decide +kernel
theorem dX13_cellAt_15 : decode cX13_cellAt 15 = .ok (.aload_n 0, 1) := by decide +kernel
theorem dX13_cellAt_16 : decode cX13_cellAt 16 = .ok (.getfield 95, 3) := by decide +kernel
theorem dX13_cellAt_19 : decode cX13_cellAt 19 = .ok (.aload_n 0, 1) := by decide +kernel
theorem dX13_cellAt_20 : decode cX13_cellAt 20 = .ok (.getfield 205, 3) := by decide +kernel
theorem dX13_cellAt_23 : decode cX13_cellAt 23 = .ok (.iconst 1, 1) := by decide +kernel
theorem dX13_cellAt_24 : decode cX13_cellAt 24 = .ok (.isub, 1) := by decide +kernel
theorem dX13_cellAt_25 : decode cX13_cellAt 25 = .ok (.iaload, 1) := by decide +kernel
theorem dX13_cellAt_26 : decode cX13_cellAt 26 = .ok (.iaload, 1) := by decide +kernel
theorem dX13_cellAt_27 : decode cX13_cellAt 27 = .ok (.ireturn, 1) := by decide +kernel
set_option maxRecDepth 20000 in
theorem ggX13_take_X13_isRight : GoodIn wsX13_take wsX13_isRight := goodIn_r _ [13, 14, 15, 16, 17, 12, 18, 19, 20, 21, 22, 23, 24, 25, 26, 27, 28, 29, 30, 31, 32, 33, 34, 35, 36, 37, 38, 39, 40, 41, 42, 43, 44, 45, 46, 47, 48, 49, 50, 51, 52, 53, 54, 55, 56, 57, 58, 59, 60, 61, 62, 63, 64, 65, 66, 67, 68, 69, 70, 71, 72, 73, 74, 75, 76, 77, 78, 79, 80, 81, 82, 83, 84, 85, 86, 87, 88, 89, 90, 91, 92, 93, 94, 95, 96, 97, 98, 99, 100, 101, 102, 103, 104, 105] (by decide +kernel) (by decide +kernel)
set_option maxRecDepth 20000 in
theorem gX13_take_X13_isRight : GoodIn wsX13_take (wsV RX13 200 RX13 yX13_isRight wsX13_isRight) := goodIn_app (goodIn_of _ (by decide +kernel)) ggX13_take_X13_isRight
theorem dX13_take_0 : decode cX13_take 0 = .ok (.iconst 0, 1) := by decide +kernel
theorem dX13_take_1 : decode cX13_take 1 = .ok (.istore_n 2, 1) := by decide +kernel
theorem dX13_take_2 : decode cX13_take 2 = .ok (.iload_n 2, 1) := by decide +kernel
theorem dX13_take_3 : decode cX13_take 3 = .ok (.aload_n 0, 1) := by decide +kernel
theorem dX13_take_4 : decode cX13_take 4 = .ok (.getfield 155, 3) := by decide +kernel
theorem dX13_take_7 : decode cX13_take 7 = .ok (.if_icmp .ge 99, 3) := by decide +kernel
theorem dX13_take_10 : decode cX13_take 10 = .ok (.aload_n 0, 1) := by decide +kernel
theorem dX13_take_11 : decode cX13_take 11 = .ok (.getfield 7, 3) := by decide +kernel
theorem dX13_take_14 : decode cX13_take 14 = .ok (.iload_n 2, 1) := by decide +kernel
theorem dX13_take_15 : decode cX13_take 15 = .ok (.iaload, 1) := by decide +kernel
theorem dX13_take_16 : decode cX13_take 16 = .ok (.iload_n 1, 1) := by decide +kernel
theorem dX13_take_17 : decode cX13_take 17 = .ok (.if_icmp .ne 83, 3) := by decide +kernel
theorem dX13_take_20 : decode cX13_take 20 = .ok (.aload_n 0, 1) := by decide +kernel
theorem dX13_take_21 : decode cX13_take 21 = .ok (.iload_n 2, 1) := by decide +kernel
theorem dX13_take_22 : decode cX13_take 22 = .ok (.invokevirtual 200, 3) := by decide +kernel
theorem dX13_take_25 : decode cX13_take 25 = .ok (.ifCond .ne 6, 3) := by decide +kernel
theorem dX13_take_28 : decode cX13_take 28 = .ok (.goto 72, 3) := by decide +kernel
theorem dX13_take_31 : decode cX13_take 31 = .ok (.aload_n 0, 1) := by decide +kernel
theorem dX13_take_32 : decode cX13_take 32 = .ok (.getfield 86, 3) := by decide +kernel
theorem dX13_take_35 : decode cX13_take 35 = .ok (.aload_n 0, 1) := by decide +kernel
theorem dX13_take_36 : decode cX13_take 36 = .ok (.getfield 208, 3) := by decide +kernel
theorem dX13_take_39 : decode cX13_take 39 = .ok (.iload_n 2, 1) := by decide +kernel
theorem dX13_take_40 : decode cX13_take 40 = .ok (.iastore, 1) := by decide +kernel
theorem dX13_take_41 : decode cX13_take 41 = .ok (.aload_n 0, 1) := by decide +kernel
theorem dX13_take_42 : decode cX13_take 42 = .ok (.getfield 89, 3) := by decide +kernel
theorem dX13_take_45 : decode cX13_take 45 = .ok (.aload_n 0, 1) := by decide +kernel
theorem dX13_take_46 : decode cX13_take 46 = .ok (.getfield 208, 3) := by decide +kernel
theorem dX13_take_49 : decode cX13_take 49 = .ok (.aload_n 0, 1) := by decide +kernel
theorem dX13_take_50 : decode cX13_take 50 = .ok (.getfield 205, 3) := by decide +kernel
theorem dX13_take_53 : decode cX13_take 53 = .ok (.iastore, 1) := by decide +kernel
theorem dX13_take_54 : decode cX13_take 54 = .ok (.iconst 0, 1) := by decide +kernel
theorem dX13_take_55 : decode cX13_take 55 = .ok (.istore_n 3, 1) := by decide +kernel
theorem dX13_take_56 : decode cX13_take 56 = .ok (.iload_n 3, 1) := by decide +kernel
theorem dX13_take_57 : decode cX13_take 57 = .ok (.aload_n 0, 1) := by decide +kernel
theorem dX13_take_58 : decode cX13_take 58 = .ok (.getfield 205, 3) := by decide +kernel
theorem dX13_take_61 : decode cX13_take 61 = .ok (.if_icmp .ge 29, 3) := by decide +kernel
theorem dX13_take_64 : decode cX13_take 64 = .ok (.aload_n 0, 1) := by decide +kernel
theorem dX13_take_65 : decode cX13_take 65 = .ok (.getfield 92, 3) := by decide +kernel
theorem dX13_take_68 : decode cX13_take 68 = .ok (.bipush 16, 2) := by decide +kernel
theorem dX13_take_70 : decode cX13_take 70 = .ok (.aload_n 0, 1) := by decide +kernel
theorem dX13_take_71 : decode cX13_take 71 = .ok (.getfield 208, 3) := by decide +kernel
theorem dX13_take_74 : decode cX13_take 74 = .ok (.imul, 1) := by decide +kernel
theorem dX13_take_75 : decode cX13_take 75 = .ok (.iload_n 3, 1) := by decide +kernel
theorem dX13_take_76 : decode cX13_take 76 = .ok (.iadd, 1) := by decide +kernel
theorem dX13_take_77 : decode cX13_take 77 = .ok (.aload_n 0, 1) := by decide +kernel
theorem dX13_take_78 : decode cX13_take 78 = .ok (.getfield 95, 3) := by decide +kernel
theorem dX13_take_81 : decode cX13_take 81 = .ok (.iload_n 3, 1) := by decide +kernel
theorem dX13_take_82 : decode cX13_take 82 = .ok (.iaload, 1) := by decide +kernel
theorem dX13_take_83 : decode cX13_take 83 = .ok (.iastore, 1) := by decide +kernel
theorem dX13_take_84 : decode cX13_take 84 = .ok (.iinc 3 1, 3) := by decide +kernel
theorem dX13_take_87 : decode cX13_take 87 = .ok (.goto (-31), 3) := by decide +kernel
theorem dX13_take_90 : decode cX13_take 90 = .ok (.aload_n 0, 1) := by decide +kernel
theorem dX13_take_91 : decode cX13_take 91 = .ok (.dup, 1) := by decide +kernel
theorem dX13_take_92 : decode cX13_take 92 = .ok (.getfield 208, 3) := by decide +kernel
theorem dX13_take_95 : decode cX13_take 95 = .ok (.iconst 1, 1) := by decide +kernel
theorem dX13_take_96 : decode cX13_take 96 = .ok (.iadd, 1) := by decide +kernel
theorem dX13_take_97 : decode cX13_take 97 = .ok (.putfield 208, 3) := by decide +kernel
theorem dX13_take_100 : decode cX13_take 100 = .ok (.iinc 2 1, 3) := by decide +kernel
theorem dX13_take_103 : decode cX13_take 103 = .ok (.goto (-101), 3) := by decide +kernel
theorem dX13_take_106 : decode cX13_take 106 = .ok (.return_, 1) := by decide +kernel

abbrev mX13_take : sv_M := (cX13_take, 4, yX13_take, wsX13_take, none, { frames := 4, cells := 0, slots := 0, locals := 100 }, [])
abbrev mX13_cellAt : sv_M := (cX13_cellAt, 2, yX13_cellAt, wsX13_cellAt, (some .int), { frames := 0, cells := 0, slots := 0, locals := 0 }, [])
/-- right polygons of cell c -/
def rQ (R : Nat → Bool) (hm : Nat → Nat) (c p : Nat) : Bool := R p && decide (hm p = c)
theorem rQ_iff {R : Nat → Bool} {hm : Nat → Nat} {c p : Nat} : rQ R hm c p = true ↔ (R p = true ∧ hm p = c) := by
  unfold rQ
  rw [Bool.and_eq_true, decide_eq_true_iff]
/-- the model's stack: the way wy -/
def mst_ (G : sv_G) (h : sv_h) (b : Nat) (wy : List Nat) : Prop := ∃ f : Nat → Int32, ab_I G h (b + 247) 17 f ∧ wy.length ≤ 16 ∧ ∀ k, k < wy.length → f k = nI (wy.getD k 0)
theorem mst_.kp {G : sv_G} {h h1 : sv_h} {b : Nat} {wy : List Nat} (H : mst_ G h b wy) (e : h1 (b + 247) = h (b + 247)) : mst_ G h1 b wy := by
  obtain ⟨f, a, c⟩ := H
  exact ⟨f, e.trans a, c⟩
theorem gA_l {α : Type} {l m : List α} {i : Nat} (d : α) (h : i < l.length) : (l ++ m).getD i d = l.getD i d := by
  rw [List.getD_eq_getElem?_getD, List.getD_eq_getElem?_getD, List.getElem?_append_left h]
theorem gA_e {α : Type} {l : List α} {x : α} (d : α) : (l ++ [x]).getD l.length d = x := by
  rw [List.getD_eq_getElem?_getD, List.getElem?_append_right (Nat.le_refl _), Nat.sub_self]; rfl
/-- one occurrence more -/
theorem moc_s {G : sv_G} {h : sv_h} {b : Nat} {O : List (List Nat × Nat)} {wy : List Nat} {p : Nat} {fp fd fw fw1 : Nat → Int32} (H : ∀ o, o < O.length → fp o = nI (O.getD o ([], 0)).2 ∧ fd o = nI (O.getD o ([], 0)).1.length ∧ (O.getD o ([], 0)).1.length < 16 ∧ ∀ d, d < (O.getD o ([], 0)).1.length → fw (16 * o + d) = nI ((O.getD o ([], 0)).1.getD d 0)) (a1 : ab_I G h (b + 244) 100 (upd fp O.length (nI p))) (a2 : ab_I G h (b + 245) 100 (upd fd O.length (nI wy.length))) (a3 : ab_I G h (b + 246) 1616 fw1) (hl : O.length < 100) (hw : wy.length < 16) (e1 : ∀ j, j < wy.length → fw1 (16 * O.length + j) = nI (wy.getD j 0)) (e2 : ∀ a, a < 16 * O.length → fw1 a = fw a) : moc_ G h b (O ++ [(wy, p)]) := by
  refine ⟨_, _, _, a1, a2, a3, by rw [List.length_append]; exact hl, fun o ho => ?_⟩
  rw [List.length_append] at ho
  have ho : o < O.length + 1 := ho
  by_cases e : o = O.length
  · subst e
    rw [gA_e]
    exact ⟨if_pos rfl, if_pos rfl, hw, e1⟩
  · have ho' : o < O.length := by omega
    obtain ⟨q1, q2, q3, q4⟩ := H o ho'
    rw [gA_l _ ho']
    exact ⟨(if_neg e).trans q1, (if_neg e).trans q2, q3, fun d hd => (e2 _ (by omega)).trans (q4 d hd)⟩
theorem m_isRightL (G : sv_G) (z b nc np pl : Nat) (R : Nat → Bool) (hm p3 p4 sz : Nat → Nat) (ly vo : Nat → Int32) (mp : Nat → mvT) (X Y : Nat → Nat → Int) (h : sv_h) (fs : List Value) (hq : mfq_ b nc np pl fs) (hm9 : h (b + 220) = some (.inr (11, fs))) (MY : myl_ G h b nc np pl R hm p3 p4 sz ly vo mp X Y) (hXY : ∀ p, p < np → ∀ i, i < sz p → (-10000 ≤ X p i ∧ X p i ≤ 10000) ∧ (-10000 ≤ Y p i ∧ Y p i ≤ 10000)) (hR : ∀ p, p < np → (R p = true ↔ gm_mr (sz p) (fun i => iN (X p i)) (fun i => iN (Y p i)))) (p : Nat) (hp : p < np) : CT G mX13_isRight [.ref (b + 220), .int (nI p)] h z (fun v h1 z1 => v = some (.int (if R p = true then 1 else 0)) ∧ h1 = h ∧ z1 = z) := by
  obtain ⟨_, _, _, ⟨g3, y3, y3a⟩, ⟨g4, y4, y4a⟩, ⟨g5, y5, y5a⟩, _, _, _, _, _, yB, yC, yD, yE, yF⟩ := id MY
  refine (m_isRight G h z b p (sz p) fs g3 g4 g5 (fun i => iN (X p i)) (fun i => iN (Y p i)) hq.1 hm9 hq.f_size hq.f_px hq.f_py y3 y4 y5 (by omega) (y3a p hp) (yE p hp).1 (fun i hi => (y4a p hp i hi).trans (iN_64 (by have := hXY p hp i hi; omega) (by have := hXY p hp i hi; omega)).symm) (fun i hi => (y5a p hp i hi).trans (iN_64 (by have := hXY p hp i hi; omega) (by have := hXY p hp i hi; omega)).symm)).mono (fun v h1 z1 _ hq9 => ?_)
  obtain ⟨⟨w, rfl, hw⟩, rfl, rfl⟩ := hq9
  refine ⟨?_, rfl, rfl⟩
  rcases hw with ⟨rfl, q⟩ | ⟨rfl, q⟩
  · rw [if_pos ((hR p hp).mpr q)]
  · rw [if_neg (fun e => q ((hR p hp).mp e))]
set_option maxHeartbeats 4000000 in
set_option maxRecDepth 100000 in
theorem l_tkW (G : sv_G) (Qr : Option Value → sv_h → Nat → Prop) (z b nc np pl : Nat) (wy : List Nat) (hw16 : wy.length < 16) (c : Nat) (hc : sv_h) (fs : List Value) (hqf : mfq_ b nc np pl fs) (hmc : hc (b + 220) = some (.inr (11, fs))) (f_deep : fs[41]? = some (.int (nI wy.length))) (n : Nat) (hn : n < 100) (f_occurrences : fs[36]? = some (.int (nI n))) (MSc : mst_ G hc b wy) (fw0 : Nat → Int32) (p : Nat) (hk : ∀ (h : sv_h) (fw : Nat → Int32), ab_I G h (b + 246) 1616 fw → (∀ j, j < wy.length → fw (16 * n + j) = nI (wy.getD j 0)) → (∀ a, a < 16 * n → fw a = fw0 a) → (∀ a, a ≠ b + 246 → h a = hc a) → V G mX13_take (sv_MQ G mX13_take Qr) 90 [(2, .int (nI p)), (1, .int (nI c)), (0, .ref (b + 220))] [] h z 0 0) : ∀ (e k : Nat) (h : sv_h) (fw : Nat → Int32), k + e = wy.length → ab_I G h (b + 246) 1616 fw → (∀ j, j < k → fw (16 * n + j) = nI (wy.getD j 0)) → (∀ a, a < 16 * n → fw a = fw0 a) → (∀ a, a ≠ b + 246 → h a = hc a) → V G mX13_take (sv_MQ G mX13_take Qr) 56 [(3, .int (nI k)), (2, .int (nI p)), (1, .int (nI c)), (0, .ref (b + 220))] [] h z 0 0 := by
  intro e
  induction e with
  | zero =>
    intro k h fw hke a1 a2 a3 frh
    have hlen : fs.length = 71 := hqf.1
    have hm9 := (frh (b + 220) (by omega)).trans hmc
    obtain ⟨fst, s1, s2, s3⟩ := id MSc
    have w247 : ab_I G h (b + 247) 17 fst := (frh _ (by omega)).trans s1
    have f_stack := hqf.f_stack
    have f_way := hqf.f_way
    have e9 : k = wy.length := by omega
    subst e9
    refine v_iload_n dX13_take_56 rfl 0 rfl ?_
    refine v_aload_n dX13_take_57 rfl 3 rfl ?_
    refine v_getf 41 (ci := 11) (C := RX13) (T := TX13) (N := 71) rfl iwX13_take_X13 (Nat.le_of_ble_eq_true rfl) (by decide +kernel) dX13_take_58 (by repeat (first | with_reducible assumption | (with_reducible refine sv_us.trans ?_; exact rfl) | with_reducible refine (sv_un (by omega)).trans ?_)) (by repeat (first | with_reducible assumption | (with_reducible refine (sv_ls (by first | omega | (simp only [List.length_set]; omega))).trans ?_; exact rfl) | with_reducible refine (List.getElem?_set_ne (by decide)).trans ?_)) ?_
    refine v_icmp_ge (tgt := 90) dX13_take_61 (by decide) (fun c_61 => ?_) (fun c_61 => ?_)
    · refine v_sub (L' := [(2, _), (1, _), (0, _)]) [1, 2, 3] rfl ?_
      exact hk h fw a1 a2 a3 frh
    · exact absurd (nI_le (Nat.le_refl _) (by omega)) c_61
  | succ e ih =>
    intro k h fw hke a1 a2 a3 frh
    have hlen : fs.length = 71 := hqf.1
    have hm9 := (frh (b + 220) (by omega)).trans hmc
    obtain ⟨fst, s1, s2, s3⟩ := id MSc
    have w247 : ab_I G h (b + 247) 17 fst := (frh _ (by omega)).trans s1
    have f_stack := hqf.f_stack
    have f_way := hqf.f_way
    have hkl : k < wy.length := by omega
    refine v_iload_n dX13_take_56 rfl 0 rfl ?_
    refine v_aload_n dX13_take_57 rfl 3 rfl ?_
    refine v_getf 41 (ci := 11) (C := RX13) (T := TX13) (N := 71) rfl iwX13_take_X13 (Nat.le_of_ble_eq_true rfl) (by decide +kernel) dX13_take_58 (by repeat (first | with_reducible assumption | (with_reducible refine sv_us.trans ?_; exact rfl) | with_reducible refine (sv_un (by omega)).trans ?_)) (by repeat (first | with_reducible assumption | (with_reducible refine (sv_ls (by first | omega | (simp only [List.length_set]; omega))).trans ?_; exact rfl) | with_reducible refine (List.getElem?_set_ne (by decide)).trans ?_)) ?_
    refine v_icmp_ge (tgt := 90) dX13_take_61 (by decide) (fun c_61 => ?_) (fun c_61 => ?_)
    · exact absurd c_61 (nI_ge hkl (by omega))
    · refine v_aload_n dX13_take_64 rfl 3 rfl ?_
      refine v_getf 39 (ci := 11) (C := RX13) (T := TX13) (N := 71) rfl iwX13_take_X13 (Nat.le_of_ble_eq_true rfl) (by decide +kernel) dX13_take_65 (by repeat (first | with_reducible assumption | (with_reducible refine sv_us.trans ?_; exact rfl) | with_reducible refine (sv_un (by omega)).trans ?_)) (by repeat (first | with_reducible assumption | (with_reducible refine (sv_ls (by first | omega | (simp only [List.length_set]; omega))).trans ?_; exact rfl) | with_reducible refine (List.getElem?_set_ne (by decide)).trans ?_)) ?_
      refine v_bipush (v := 16) dX13_take_68 (by decide) ?_
      refine v_aload_n dX13_take_70 rfl 3 rfl ?_
      refine v_getf 36 (ci := 11) (C := RX13) (T := TX13) (N := 71) rfl iwX13_take_X13 (Nat.le_of_ble_eq_true rfl) (by decide +kernel) dX13_take_71 (by repeat (first | with_reducible assumption | (with_reducible refine sv_us.trans ?_; exact rfl) | with_reducible refine (sv_un (by omega)).trans ?_)) (by repeat (first | with_reducible assumption | (with_reducible refine (sv_ls (by first | omega | (simp only [List.length_set]; omega))).trans ?_; exact rfl) | with_reducible refine (List.getElem?_set_ne (by decide)).trans ?_)) ?_
      refine v_imul dX13_take_74 ?_
      refine v_iload_n dX13_take_75 rfl 0 rfl ?_
      refine v_iadd dX13_take_76 ?_
      refine v_aload_n dX13_take_77 rfl 3 rfl ?_
      refine v_getf 40 (ci := 11) (C := RX13) (T := TX13) (N := 71) rfl iwX13_take_X13 (Nat.le_of_ble_eq_true rfl) (by decide +kernel) dX13_take_78 (by repeat (first | with_reducible assumption | (with_reducible refine sv_us.trans ?_; exact rfl) | with_reducible refine (sv_un (by omega)).trans ?_)) (by repeat (first | with_reducible assumption | (with_reducible refine (sv_ls (by first | omega | (simp only [List.length_set]; omega))).trans ?_; exact rfl) | with_reducible refine (List.getElem?_set_ne (by decide)).trans ?_)) ?_
      refine v_iload_n dX13_take_81 rfl 0 rfl ?_
      refine v_ialdS (v := nI (wy.getD k 0)) dX13_take_82 (by repeat (first | with_reducible assumption | (with_reducible refine sv_us.trans ?_; exact rfl) | with_reducible refine (sv_un (by omega)).trans ?_)) (vp_in_nI (by omega) (by omega)) (by rw [nI_clamp (by omega)]; exact s3 k hkl) ?_
      rw [sv_16a]
      refine v_iast dX13_take_83 (by repeat (first | with_reducible assumption | (with_reducible refine sv_us.trans ?_; exact rfl) | with_reducible refine (sv_un (by omega)).trans ?_)) (vp_in_nI (by omega) (by omega)) ?_
      refine v_iinc (j := 0) (L' := [(3, _), (2, _), (1, _), (0, _)]) (v := nI (k + 1)) dX13_take_84 rfl (nI_1 _) (Nat.le_of_ble_eq_true rfl) rfl ?_
      refine v_goto (tgt := 56) dX13_take_87 (by decide) ?_
      refine v_sub (L' := [(3, _), (2, _), (1, _), (0, _)]) [0, 1, 2, 3] rfl ?_
      rw [nI_clamp (show 16 * n + k < 2 ^ 31 by omega)]
      refine ih (k + 1) _ (upd fw (16 * n + k) (nI (wy.getD k 0))) (by omega) sv_us (fun j hj => ?_) (fun a p9 => (if_neg (by omega)).trans (a3 a p9)) (fun a p9 => (sv_un p9).trans (frh a p9))
      by_cases e9 : j = k
      · subst e9; exact if_pos rfl
      · exact (if_neg (by omega)).trans (a2 j (by omega))

set_option maxHeartbeats 4000000 in
set_option maxRecDepth 100000 in
theorem l_tk (G : sv_G) (Qr : Option Value → sv_h → Nat → Prop) (z b nc np pl : Nat) (R : Nat → Bool) (hm p3 p4 sz : Nat → Nat) (ly vo : Nat → Int32) (mp : Nat → mvT) (X Y : Nat → Nat → Int) (hb : sv_h) (fs0 : List Value) (hq0 : mfq_ b nc np pl fs0) (MY : myl_ G hb b nc np pl R hm p3 p4 sz ly vo mp X Y) (wy : List Nat) (MS : mst_ G hb b wy) (hw16 : wy.length < 16) (h41 : fs0[41]? = some (.int (nI wy.length))) (c : Nat) (hc16 : c < 16) (O : List (List Nat × Nat)) (hN : O.length + (dO np (rQ R hm) c wy).length ≤ 100) (hXY : ∀ p, p < np → ∀ i, i < sz p → (-10000 ≤ X p i ∧ X p i ≤ 10000) ∧ (-10000 ≤ Y p i ∧ Y p i ≤ 10000)) (hR : ∀ p, p < np → (R p = true ↔ gm_mr (sz p) (fun i => iN (X p i)) (fun i => iN (Y p i)))) (hk : ∀ (h : sv_h) (fs : List Value), h (b + 220) = some (.inr (11, fs)) → fs.length = 71 → fsE [36] fs0 fs → fs[36]? = some (.int (nI (O ++ dO np (rQ R hm) c wy).length)) → moc_ G h b (O ++ dO np (rQ R hm) c wy) → (∀ a, a ≠ b + 220 → ¬ (b + 244 ≤ a ∧ a < b + 247) → h a = hb a) → Qr none h z) : ∀ (e p : Nat) (h : sv_h) (fs : List Value), p + e = np → h (b + 220) = some (.inr (11, fs)) → fs.length = 71 → fsE [36] fs0 fs → fs[36]? = some (.int (nI (O ++ dO p (rQ R hm) c wy).length)) → moc_ G h b (O ++ dO p (rQ R hm) c wy) → (∀ a, a ≠ b + 220 → ¬ (b + 244 ≤ a ∧ a < b + 247) → h a = hb a) → V G mX13_take (sv_MQ G mX13_take Qr) 2 [(2, .int (nI p)), (1, .int (nI c)), (0, .ref (b + 220))] [] h z 0 0 := by
  intro e
  induction e with
  | zero =>
    intro p h fs hpe hm9 hl hE f_occurrences MO frh
    have hqf := hq0.to (S := [36]) hl hE (by decide)
    have hlen : fs.length = 71 := hl
    obtain ⟨⟨g0, y0, y0a⟩, _, _, _, _, _, _, _, _, _, _, yB, yC, yD, yE, yF⟩ := id MY
    have w221 : ab_I G h (b + 221) 64 g0 := (frh _ (by omega) (by omega)).trans y0
    have f_deep : fs[41]? = some (.int (nI wy.length)) := (hE 41 (by decide)).trans h41
    obtain ⟨fp, fd, fw, o1, o2, o3, o4, o5⟩ := id MO
    have f_polygons := hqf.f_polygons
    have f_owner := hqf.f_owner
    have f_polygon := hqf.f_polygon
    have f_depth := hqf.f_depth
    have f_stack := hqf.f_stack
    have f_way := hqf.f_way
    have e9 : p = np := by omega
    subst e9
    refine v_iload_n dX13_take_2 rfl 0 rfl ?_
    refine v_aload_n dX13_take_3 rfl 2 rfl ?_
    refine v_getf 3 (ci := 11) (C := RX13) (T := TX13) (N := 71) rfl iwX13_take_X13 (Nat.le_of_ble_eq_true rfl) (by decide +kernel) dX13_take_4 (by repeat (first | with_reducible assumption | (with_reducible refine sv_us.trans ?_; exact rfl) | with_reducible refine (sv_un (by omega)).trans ?_)) (by repeat (first | with_reducible assumption | (with_reducible refine (sv_ls (by first | omega | (simp only [List.length_set]; omega))).trans ?_; exact rfl) | with_reducible refine (List.getElem?_set_ne (by decide)).trans ?_)) ?_
    refine v_icmp_ge (tgt := 106) dX13_take_7 (by decide) (fun c_7 => ?_) (fun c_7 => ?_)
    · exact v_ret rfl dX13_take_106 (Nat.le_of_ble_eq_true rfl) (Nat.le_of_ble_eq_true rfl) (hk h fs hm9 hl hE f_occurrences MO frh)
    · exact absurd (nI_le (Nat.le_refl _) (by omega)) c_7
  | succ e ih =>
    intro p h fs hpe hm9 hl hE f_occurrences MO frh
    have hqf := hq0.to (S := [36]) hl hE (by decide)
    have hlen : fs.length = 71 := hl
    obtain ⟨⟨g0, y0, y0a⟩, _, _, _, _, _, _, _, _, _, _, yB, yC, yD, yE, yF⟩ := id MY
    have w221 : ab_I G h (b + 221) 64 g0 := (frh _ (by omega) (by omega)).trans y0
    have f_deep : fs[41]? = some (.int (nI wy.length)) := (hE 41 (by decide)).trans h41
    obtain ⟨fp, fd, fw, o1, o2, o3, o4, o5⟩ := id MO
    have f_polygons := hqf.f_polygons
    have f_owner := hqf.f_owner
    have f_polygon := hqf.f_polygon
    have f_depth := hqf.f_depth
    have f_stack := hqf.f_stack
    have f_way := hqf.f_way
    have hp : p < np := by omega
    have hmp := (yE p hp).2
    refine v_iload_n dX13_take_2 rfl 0 rfl ?_
    refine v_aload_n dX13_take_3 rfl 2 rfl ?_
    refine v_getf 3 (ci := 11) (C := RX13) (T := TX13) (N := 71) rfl iwX13_take_X13 (Nat.le_of_ble_eq_true rfl) (by decide +kernel) dX13_take_4 (by repeat (first | with_reducible assumption | (with_reducible refine sv_us.trans ?_; exact rfl) | with_reducible refine (sv_un (by omega)).trans ?_)) (by repeat (first | with_reducible assumption | (with_reducible refine (sv_ls (by first | omega | (simp only [List.length_set]; omega))).trans ?_; exact rfl) | with_reducible refine (List.getElem?_set_ne (by decide)).trans ?_)) ?_
    refine v_icmp_ge (tgt := 106) dX13_take_7 (by decide) (fun c_7 => ?_) (fun c_7 => ?_)
    · exact absurd c_7 (nI_ge hp (by omega))
    · refine v_aload_n dX13_take_10 rfl 2 rfl ?_
      refine v_getf 4 (ci := 11) (C := RX13) (T := TX13) (N := 71) rfl iwX13_take_X13 (Nat.le_of_ble_eq_true rfl) (by decide +kernel) dX13_take_11 (by repeat (first | with_reducible assumption | (with_reducible refine sv_us.trans ?_; exact rfl) | with_reducible refine (sv_un (by omega)).trans ?_)) (by repeat (first | with_reducible assumption | (with_reducible refine (sv_ls (by first | omega | (simp only [List.length_set]; omega))).trans ?_; exact rfl) | with_reducible refine (List.getElem?_set_ne (by decide)).trans ?_)) ?_
      refine v_iload_n dX13_take_14 rfl 0 rfl ?_
      refine v_ialdS (v := nI (hm p)) dX13_take_15 (by repeat (first | with_reducible assumption | (with_reducible refine sv_us.trans ?_; exact rfl) | with_reducible refine (sv_un (by omega)).trans ?_)) (vp_in_nI (by omega) (by omega)) (by rw [nI_clamp (by omega)]; exact y0a p hp) ?_
      refine v_iload_n dX13_take_16 rfl 1 rfl ?_
      refine v_icmp_ne (tgt := 100) dX13_take_17 (by decide) (fun c_17 => ?_) (fun c_17 => ?_)
      · refine v_iinc (j := 0) (L' := [(2, _), (1, _), (0, _)]) (v := nI (p + 1)) dX13_take_100 rfl (nI_1 _) (Nat.le_of_ble_eq_true rfl) rfl ?_
        refine v_goto (tgt := 2) dX13_take_103 (by decide) ?_
        refine v_sub (L' := [(2, _), (1, _), (0, _)]) [0, 1, 2] rfl ?_
        have e8 : dO (p + 1) (rQ R hm) c wy = dO p (rQ R hm) c wy := dO_n (fun q => by
          have q1 := rQ_iff.mp q
          first
            | exact c_17 (congrArg nI q1.2)
            | (rw [if_pos q1.1] at c_25; exact absurd c_25 (by decide)))
        refine ih (p + 1) h fs (by omega) hm9 hl hE ?_ ?_ frh
        · rw [e8]; exact f_occurrences
        · rw [e8]; exact MO
      · refine v_aload_n dX13_take_20 rfl 2 rfl ?_
        refine v_iload_n dX13_take_21 rfl 0 rfl ?_
        refine v_callVq (M' := mX13_isRight) (n := 1) (As := [_]) (ci := 11) (r := (RX13, TX13, 71)) gX13_take_X13_isRight rfl (by decide +kernel) ⟨(Nat.le_of_ble_eq_true rfl), (Nat.le_of_ble_eq_true rfl)⟩ rfl rfl dX13_take_22 rfl ⟨(Nat.le_of_ble_eq_true rfl), (Nat.le_of_ble_eq_true rfl)⟩ (Nat.le_of_ble_eq_true rfl) (by repeat (first | with_reducible assumption | (with_reducible refine sv_us.trans ?_; exact rfl) | with_reducible refine (sv_un (by omega)).trans ?_)) rfl (m_isRightL G _ b nc np pl R hm p3 p4 sz ly vo mp X Y h fs hqf hm9 (MY.kp (fun a p1 p2 => frh a (by omega) (by omega))) hXY hR p hp) (fun v9 h9 y9 hq => v_pq hq ?_)
        refine v_if_ne (tgt := 31) dX13_take_25 (by decide) (fun c_25 => ?_) (fun c_25 => ?_)
        · have e8 : dO (p + 1) (rQ R hm) c wy = dO p (rQ R hm) c wy ++ [(wy, p)] := dO_p (rQ_iff.mpr ⟨Decidable.of_not_not (fun e9 => c_25 (if_neg e9)), nI_i (by omega) (by omega) c_17⟩)
          have h100 : (O ++ dO p (rQ R hm) c wy).length < 100 := (by
            have q1 := dO_le (Q := rQ R hm) (c := c) (w := wy) (show p + 1 ≤ np by omega)
            rw [e8, List.length_append] at q1
            rw [List.length_append]
            have q2 : (dO p (rQ R hm) c wy).length + 1 ≤ _ := q1
            omega)
          refine v_aload_n dX13_take_31 rfl 2 rfl ?_
          refine v_getf 37 (ci := 11) (C := RX13) (T := TX13) (N := 71) rfl iwX13_take_X13 (Nat.le_of_ble_eq_true rfl) (by decide +kernel) dX13_take_32 (by repeat (first | with_reducible assumption | (with_reducible refine sv_us.trans ?_; exact rfl) | with_reducible refine (sv_un (by omega)).trans ?_)) (by repeat (first | with_reducible assumption | (with_reducible refine (sv_ls (by first | omega | (simp only [List.length_set]; omega))).trans ?_; exact rfl) | with_reducible refine (List.getElem?_set_ne (by decide)).trans ?_)) ?_
          refine v_aload_n dX13_take_35 rfl 2 rfl ?_
          refine v_getf 36 (ci := 11) (C := RX13) (T := TX13) (N := 71) rfl iwX13_take_X13 (Nat.le_of_ble_eq_true rfl) (by decide +kernel) dX13_take_36 (by repeat (first | with_reducible assumption | (with_reducible refine sv_us.trans ?_; exact rfl) | with_reducible refine (sv_un (by omega)).trans ?_)) (by repeat (first | with_reducible assumption | (with_reducible refine (sv_ls (by first | omega | (simp only [List.length_set]; omega))).trans ?_; exact rfl) | with_reducible refine (List.getElem?_set_ne (by decide)).trans ?_)) ?_
          refine v_iload_n dX13_take_39 rfl 0 rfl ?_
          refine v_iast dX13_take_40 (by repeat (first | with_reducible assumption | (with_reducible refine sv_us.trans ?_; exact rfl) | with_reducible refine (sv_un (by omega)).trans ?_)) (vp_in_nI (by omega) (by omega)) ?_
          refine v_aload_n dX13_take_41 rfl 2 rfl ?_
          refine v_getf 38 (ci := 11) (C := RX13) (T := TX13) (N := 71) rfl iwX13_take_X13 (Nat.le_of_ble_eq_true rfl) (by decide +kernel) dX13_take_42 (by repeat (first | with_reducible assumption | (with_reducible refine sv_us.trans ?_; exact rfl) | with_reducible refine (sv_un (by omega)).trans ?_)) (by repeat (first | with_reducible assumption | (with_reducible refine (sv_ls (by first | omega | (simp only [List.length_set]; omega))).trans ?_; exact rfl) | with_reducible refine (List.getElem?_set_ne (by decide)).trans ?_)) ?_
          refine v_aload_n dX13_take_45 rfl 2 rfl ?_
          refine v_getf 36 (ci := 11) (C := RX13) (T := TX13) (N := 71) rfl iwX13_take_X13 (Nat.le_of_ble_eq_true rfl) (by decide +kernel) dX13_take_46 (by repeat (first | with_reducible assumption | (with_reducible refine sv_us.trans ?_; exact rfl) | with_reducible refine (sv_un (by omega)).trans ?_)) (by repeat (first | with_reducible assumption | (with_reducible refine (sv_ls (by first | omega | (simp only [List.length_set]; omega))).trans ?_; exact rfl) | with_reducible refine (List.getElem?_set_ne (by decide)).trans ?_)) ?_
          refine v_aload_n dX13_take_49 rfl 2 rfl ?_
          refine v_getf 41 (ci := 11) (C := RX13) (T := TX13) (N := 71) rfl iwX13_take_X13 (Nat.le_of_ble_eq_true rfl) (by decide +kernel) dX13_take_50 (by repeat (first | with_reducible assumption | (with_reducible refine sv_us.trans ?_; exact rfl) | with_reducible refine (sv_un (by omega)).trans ?_)) (by repeat (first | with_reducible assumption | (with_reducible refine (sv_ls (by first | omega | (simp only [List.length_set]; omega))).trans ?_; exact rfl) | with_reducible refine (List.getElem?_set_ne (by decide)).trans ?_)) ?_
          refine v_iast dX13_take_53 (by repeat (first | with_reducible assumption | (with_reducible refine sv_us.trans ?_; exact rfl) | with_reducible refine (sv_un (by omega)).trans ?_)) (vp_in_nI (by omega) (by omega)) ?_
          refine v_iconst (v := 0) dX13_take_54 (by decide) ?_
          refine v_istore_n (L' := [(3, _), (2, _), (1, _), (0, _)]) dX13_take_55 rfl (Nat.le_of_ble_eq_true rfl) rfl ?_
          refine v_sub (L' := [(3, _), (2, _), (1, _), (0, _)]) [0, 1, 2, 3] rfl ?_
          rw [nI_clamp (show (O ++ dO p (rQ R hm) c wy).length < 2 ^ 31 by omega)]
          refine l_tkW G Qr _ b nc np pl wy hw16 c _ fs hqf ((sv_un (by omega)).trans ((sv_un (by omega)).trans hm9)) f_deep (O ++ dO p (rQ R hm) c wy).length h100 f_occurrences ((MS.kp (frh _ (by omega) (by omega))).kp ((sv_un (by omega)).trans (sv_un (by omega)))) fw p (fun h2 fw2 v1 v2 v3 v4 => ?_) wy.length 0 _ fw (Nat.zero_add _) ((sv_un (by omega)).trans ((sv_un (by omega)).trans o3)) (fun j hj => absurd hj (Nat.not_lt_zero j)) (fun _ _ => rfl) (fun _ _ => rfl)
          have hm2 := (v4 (b + 220) (by omega)).trans ((sv_un (by omega)).trans ((sv_un (by omega)).trans hm9))
          refine v_aload_n dX13_take_90 rfl 2 rfl ?_
          refine v_dup dX13_take_91 rfl ?_
          refine v_getf 36 (ci := 11) (C := RX13) (T := TX13) (N := 71) rfl iwX13_take_X13 (Nat.le_of_ble_eq_true rfl) (by decide +kernel) dX13_take_92 (by repeat (first | with_reducible assumption | (with_reducible refine sv_us.trans ?_; exact rfl) | with_reducible refine (sv_un (by omega)).trans ?_)) (by repeat (first | with_reducible assumption | (with_reducible refine (sv_ls (by first | omega | (simp only [List.length_set]; omega))).trans ?_; exact rfl) | with_reducible refine (List.getElem?_set_ne (by decide)).trans ?_)) ?_
          refine v_iconst (v := 1) dX13_take_95 (by decide) ?_
          refine v_iadd dX13_take_96 ?_
          rw [show nI (O ++ dO p (rQ R hm) c wy).length + 1 = nI ((O ++ dO p (rQ R hm) c wy).length + 1) from nI_1 _]
          refine v_putf 36 (fs' := _) (ci := 11) (C := RX13) (T := TX13) (N := 71) (ty := .int) rfl iwX13_take_X13 tyX13 tyX13_ok nmX13 (Nat.le_of_ble_eq_true rfl) (by decide +kernel) rfl rfl dX13_take_97 rfl rfl (by repeat (first | with_reducible assumption | (with_reducible refine sv_us.trans ?_; exact rfl) | with_reducible refine (sv_un (by omega)).trans ?_)) (by first | omega | (simp only [List.length_set]; omega)) rfl ?_
          refine v_iinc (j := 0) (L' := [(2, _), (1, _), (0, _)]) (v := nI (p + 1)) dX13_take_100 rfl (nI_1 _) (Nat.le_of_ble_eq_true rfl) rfl ?_
          refine v_goto (tgt := 2) dX13_take_103 (by decide) ?_
          refine v_sub (L' := [(2, _), (1, _), (0, _)]) [0, 1, 2] rfl ?_
          refine ih (p + 1) _ (fs.set 36 (.int (nI ((O ++ dO p (rQ R hm) c wy).length + 1)))) (by omega) sv_us (by rw [List.length_set]; exact hl) (hE.st (by decide)) ?_ ?_ (fun a p1 p2 => (sv_un p1).trans ((v4 a (by omega)).trans ((sv_un (by omega)).trans ((sv_un (by omega)).trans (frh a p1 p2)))))
          · rw [e8, ← List.append_assoc, show (((O ++ dO p (rQ R hm) c wy)) ++ [(wy, p)]).length = ((O ++ dO p (rQ R hm) c wy)).length + 1 from List.length_append]; exact sv_ls (by omega)
          · rw [e8, ← List.append_assoc]
            exact moc_s o5 ((sv_un (by omega)).trans ((v4 _ (by omega)).trans ((sv_un (by omega)).trans sv_us))) ((sv_un (by omega)).trans ((v4 _ (by omega)).trans sv_us)) ((sv_un (by omega)).trans v1) h100 hw16 v2 v3
        · refine v_goto (tgt := 100) dX13_take_28 (by decide) ?_
          refine v_iinc (j := 0) (L' := [(2, _), (1, _), (0, _)]) (v := nI (p + 1)) dX13_take_100 rfl (nI_1 _) (Nat.le_of_ble_eq_true rfl) rfl ?_
          refine v_goto (tgt := 2) dX13_take_103 (by decide) ?_
          refine v_sub (L' := [(2, _), (1, _), (0, _)]) [0, 1, 2] rfl ?_
          have e8 : dO (p + 1) (rQ R hm) c wy = dO p (rQ R hm) c wy := dO_n (fun q => by
            have q1 := rQ_iff.mp q
            first
              | exact c_17 (congrArg nI q1.2)
              | (rw [if_pos q1.1] at c_25; exact absurd c_25 (by decide)))
          refine ih (p + 1) h fs (by omega) hm9 hl hE ?_ ?_ frh
          · rw [e8]; exact f_occurrences
          · rw [e8]; exact MO

set_option maxHeartbeats 4000000 in
set_option maxRecDepth 100000 in
theorem m_takeC (G : sv_G) (z b nc np pl : Nat) (R : Nat → Bool) (hm p3 p4 sz : Nat → Nat) (ly vo : Nat → Int32) (mp : Nat → mvT) (X Y : Nat → Nat → Int) (hb : sv_h) (fs0 : List Value) (hq0 : mfq_ b nc np pl fs0) (MY : myl_ G hb b nc np pl R hm p3 p4 sz ly vo mp X Y) (wy : List Nat) (MS : mst_ G hb b wy) (hw16 : wy.length < 16) (h41 : fs0[41]? = some (.int (nI wy.length))) (c : Nat) (hc16 : c < 16) (O : List (List Nat × Nat)) (hN : O.length + (dO np (rQ R hm) c wy).length ≤ 100) (hXY : ∀ p, p < np → ∀ i, i < sz p → (-10000 ≤ X p i ∧ X p i ≤ 10000) ∧ (-10000 ≤ Y p i ∧ Y p i ≤ 10000)) (hR : ∀ p, p < np → (R p = true ↔ gm_mr (sz p) (fun i => iN (X p i)) (fun i => iN (Y p i)))) (MO : moc_ G hb b O) (h36 : fs0[36]? = some (.int (nI O.length))) (hm9 : hb (b + 220) = some (.inr (11, fs0))) : CT G mX13_take [.ref (b + 220), .int (nI c)] hb z (fun v9 h1 z1 => v9 = none ∧ z1 = z ∧ ∃ fs1, h1 (b + 220) = some (.inr (11, fs1)) ∧ fs1.length = 71 ∧ fsE [36] fs0 fs1 ∧ fs1[36]? = some (.int (nI (O ++ dO np (rQ R hm) c wy).length)) ∧ moc_ G h1 b (O ++ dO np (rQ R hm) c wy) ∧ ∀ a, a ≠ b + 220 → ¬ (b + 244 ≤ a ∧ a < b + 247) → h1 a = hb a) := by
  refine CT.of (by decide +kernel) rfl rfl (Nat.le_of_ble_eq_true rfl) ?_
  refine v_iconst (v := 0) dX13_take_0 (by decide) ?_
  refine v_istore_n (L' := [(2, _), (0, _), (1, _)]) dX13_take_1 rfl (Nat.le_of_ble_eq_true rfl) rfl ?_
  refine v_sub (L' := [(2, _), (1, _), (0, _)]) [0, 2, 1] rfl ?_
  exact l_tk G (fun v9 h1 z1 => v9 = none ∧ z1 = z ∧ ∃ fs1, h1 (b + 220) = some (.inr (11, fs1)) ∧ fs1.length = 71 ∧ fsE [36] fs0 fs1 ∧ fs1[36]? = some (.int (nI (O ++ dO np (rQ R hm) c wy).length)) ∧ moc_ G h1 b (O ++ dO np (rQ R hm) c wy) ∧ ∀ a, a ≠ b + 220 → ¬ (b + 244 ≤ a ∧ a < b + 247) → h1 a = hb a) z b nc np pl R hm p3 p4 sz ly vo mp X Y hb fs0 hq0 MY wy MS hw16 h41 c hc16 O hN hXY hR (fun h2 fs2 v1 v2 v3 v4 v5 v6 => ⟨rfl, rfl, fs2, v1, v2, v3, v4, v5, v6⟩) np 0 hb fs0 (Nat.zero_add _) hm9 hq0.1 fsE.rf (by rw [show dO 0 (rQ R hm) c wy = [] from rfl, List.append_nil]; exact h36) (by rw [show dO 0 (rQ R hm) c wy = [] from rfl, List.append_nil]; exact MO) (fun _ _ _ => rfl)

set_option maxHeartbeats 4000000 in
set_option maxRecDepth 100000 in
theorem m_cellAt (G : sv_G) (z b nc np pl : Nat) (R : Nat → Bool) (hm p3 p4 sz : Nat → Nat) (ly vo : Nat → Int32) (mp : Nat → mvT) (X Y : Nat → Nat → Int) (hb : sv_h) (fs0 : List Value) (hq0 : mfq_ b nc np pl fs0) (MY : myl_ G hb b nc np pl R hm p3 p4 sz ly vo mp X Y) (wy : List Nat) (MS : mst_ G hb b wy) (h41 : fs0[41]? = some (.int (nI wy.length))) (hwp : ∀ i, i ∈ wy → i < pl) (hm9 : hb (b + 220) = some (.inr (11, fs0))) (top : Nat) : CT G mX13_cellAt [.ref (b + 220), .int (nI top)] hb z (fun v h1 z1 => v = some (.int (nI (mcl p4 top wy wy.length))) ∧ h1 = hb ∧ z1 = z) := by
  refine CT.of (by decide +kernel) rfl rfl (Nat.le_of_ble_eq_true rfl) ?_
  have hlen : fs0.length = 71 := hq0.1
  obtain ⟨_, _, _, _, _, _, _, ⟨g7, y7, y7a⟩, _, _, _, yB, yC, yD, yE, yF⟩ := id MY
  obtain ⟨fst, s1, s2, s3⟩ := id MS
  have f_deep := h41
  have f_stack := hq0.f_stack
  have f_placeOf := hq0.f_placeOf
  refine v_aload_n dX13_cellAt_0 rfl 0 rfl ?_
  refine v_getf 41 (ci := 11) (C := RX13) (T := TX13) (N := 71) rfl iwX13_cellAt_X13 (Nat.le_of_ble_eq_true rfl) (by decide +kernel) dX13_cellAt_1 (by first | with_reducible assumption) (by repeat (first | with_reducible assumption | (with_reducible refine (sv_ls (by first | omega | (simp only [List.length_set]; omega))).trans ?_; exact rfl) | with_reducible refine (List.getElem?_set_ne (by decide)).trans ?_)) ?_
  refine v_if_ne (tgt := 11) dX13_cellAt_4 (by decide) (fun c_4 => ?_) (fun c_4 => ?_)
  · have h0 : 0 < wy.length := Nat.pos_of_ne_zero (fun e9 => c_4 (by rw [e9]; rfl))
    have hin : wy.getD (wy.length - 1) 0 < pl := hwp _ (getD_mem 0 (by omega))
    refine v_aload_n dX13_cellAt_11 rfl 0 rfl ?_
    refine v_getf 12 (ci := 11) (C := RX13) (T := TX13) (N := 71) rfl iwX13_cellAt_X13 (Nat.le_of_ble_eq_true rfl) (by decide +kernel) dX13_cellAt_12 (by first | with_reducible assumption) (by repeat (first | with_reducible assumption | (with_reducible refine (sv_ls (by first | omega | (simp only [List.length_set]; omega))).trans ?_; exact rfl) | with_reducible refine (List.getElem?_set_ne (by decide)).trans ?_)) ?_
    refine v_aload_n dX13_cellAt_15 rfl 0 rfl ?_
    refine v_getf 40 (ci := 11) (C := RX13) (T := TX13) (N := 71) rfl iwX13_cellAt_X13 (Nat.le_of_ble_eq_true rfl) (by decide +kernel) dX13_cellAt_16 (by first | with_reducible assumption) (by repeat (first | with_reducible assumption | (with_reducible refine (sv_ls (by first | omega | (simp only [List.length_set]; omega))).trans ?_; exact rfl) | with_reducible refine (List.getElem?_set_ne (by decide)).trans ?_)) ?_
    refine v_aload_n dX13_cellAt_19 rfl 0 rfl ?_
    refine v_getf 41 (ci := 11) (C := RX13) (T := TX13) (N := 71) rfl iwX13_cellAt_X13 (Nat.le_of_ble_eq_true rfl) (by decide +kernel) dX13_cellAt_20 (by first | with_reducible assumption) (by repeat (first | with_reducible assumption | (with_reducible refine (sv_ls (by first | omega | (simp only [List.length_set]; omega))).trans ?_; exact rfl) | with_reducible refine (List.getElem?_set_ne (by decide)).trans ?_)) ?_
    refine v_iconst (v := 1) dX13_cellAt_23 (by decide) ?_
    refine v_isub dX13_cellAt_24 ?_
    rw [show nI wy.length - 1 = nI (wy.length - 1) from by rw [show wy.length = (wy.length - 1) + 1 by omega, nI_s1]; rfl]
    refine v_ialdS (v := nI (wy.getD (wy.length - 1) 0)) dX13_cellAt_25 (by first | with_reducible assumption) (vp_in_nI (by omega) (by omega)) (by rw [nI_clamp (by omega)]; exact s3 _ (by omega)) ?_
    refine v_ialdS (v := nI (p4 (wy.getD (wy.length - 1) 0))) dX13_cellAt_26 (by first | with_reducible assumption) (vp_in_nI (by omega) (by omega)) (by rw [nI_clamp (by omega)]; exact y7a _ hin) ?_
    exact v_iret rfl dX13_cellAt_27 (Nat.le_of_ble_eq_true rfl) (Nat.le_of_ble_eq_true rfl) rfl (by
          refine ⟨?_, rfl, rfl⟩
          unfold mcl
          first
            | rw [if_neg (show ¬ wy.length = 0 by omega)]
            | rw [if_pos (nI_i (c := 0) (by omega) (by omega) c_4)])
  · refine v_iload_n dX13_cellAt_7 rfl 1 rfl ?_
    refine v_goto (tgt := 27) dX13_cellAt_8 (by decide) ?_
    exact v_iret rfl dX13_cellAt_27 (Nat.le_of_ble_eq_true rfl) (Nat.le_of_ble_eq_true rfl) rfl (by
          refine ⟨?_, rfl, rfl⟩
          unfold mcl
          first
            | rw [if_neg (show ¬ wy.length = 0 by omega)]
            | rw [if_pos (nI_i (c := 0) (by omega) (by omega) c_4)])

