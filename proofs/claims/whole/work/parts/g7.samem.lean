section SAMEM
variable {pl : Nat} {p3 p4 : Nat → Nat} {mp : Nat → mvT}
theorem sg_m {d : Nat} {r : List Int64} {c : Nat} {x : List Int64} : x ∈ sgl d r c ↔ c = d ∧ x = r := by
  unfold sgl
  by_cases e : c = d
  · rw [if_pos e, List.mem_singleton]; exact ⟨fun q => ⟨e, q⟩, fun q => q.2⟩
  · rw [if_neg e]; exact ⟨fun q => absurd q (List.not_mem_nil), fun q => absurd q.1 e⟩
/-- what is told comes from one row -/
theorem lS_sg {Lc : Nat → List (List Int64)} : ∀ (f c : Nat) (w : List Nat) (x : List Int64), x ∈ lS pl p3 p4 mp Lc f c w ↔ ∃ d r, r ∈ Lc d ∧ x ∈ lS pl p3 p4 mp (sgl d r) f c w
  | 0, c, w, x => ⟨fun q => absurd q (List.not_mem_nil), fun ⟨_, _, _, q⟩ => absurd q (List.not_mem_nil)⟩
  | f + 1, c, w, x => by
    rw [lS_s, List.mem_append, List.mem_map, List.mem_flatMap]
    constructor
    · rintro (⟨r, h1, h2⟩ | ⟨i, h1, h2⟩)
      · refine ⟨c, r, h1, ?_⟩
        rw [lS_s, List.mem_append, List.mem_map]
        exact Or.inl ⟨r, sg_m.mpr ⟨rfl, rfl⟩, h2⟩
      · by_cases e : p3 i = c
        · rw [if_pos e] at h2
          obtain ⟨d, r, h3, h4⟩ := (lS_sg f (p4 i) (w ++ [i]) x).mp h2
          refine ⟨d, r, h3, ?_⟩
          rw [lS_s, List.mem_append, List.mem_flatMap]
          exact Or.inr ⟨i, h1, by rw [if_pos e]; exact h4⟩
        · rw [if_neg e] at h2; exact absurd h2 (List.not_mem_nil)
    · rintro ⟨d, r, h3, h4⟩
      rw [lS_s, List.mem_append, List.mem_map, List.mem_flatMap] at h4
      rcases h4 with ⟨r2, h1, h2⟩ | ⟨i, h1, h2⟩
      · obtain ⟨e1, e2⟩ := sg_m.mp h1
        exact Or.inl ⟨r2, by rw [e1, e2]; exact h3, h2⟩
      · by_cases e : p3 i = c
        · rw [if_pos e] at h2
          exact Or.inr ⟨i, h1, by rw [if_pos e]; exact (lS_sg f (p4 i) (w ++ [i]) x).mpr ⟨d, r, h3, h2⟩⟩
        · rw [if_neg e] at h2; exact absurd h2 (List.not_mem_nil)
theorem sg_mv {d : Nat} {r : List Int64} : ∀ (f c : Nat) (w : List Nat) (x : List Int64), x ∈ lS pl p3 p4 mp (sgl d r) f c w → ∃ M, x = mvR M r
  | 0, c, w, x, h => absurd h (List.not_mem_nil)
  | f + 1, c, w, x, h => by
    rw [lS_s, List.mem_append, List.mem_map, List.mem_flatMap] at h
    rcases h with ⟨r2, h1, h2⟩ | ⟨i, h1, h2⟩
    · obtain ⟨_, e2⟩ := sg_m.mp h1
      exact ⟨mvW mp w, by rw [← h2, e2]⟩
    · by_cases e : p3 i = c
      · rw [if_pos e] at h2; exact sg_mv f (p4 i) (w ++ [i]) x h2
      · rw [if_neg e] at h2; exact absurd h2 (List.not_mem_nil)
theorem dsR_mv (rl : Int32) (M : mvT) (r : List Int64) : ∀ j, j < 8 → dsR rl (mvR M r) j = dsR rl r j
  | 0, _ => rfl
  | 1, _ => rfl
  | 2, _ => rfl
  | 3, _ => rfl
  | 4, _ => rfl
  | 5, _ => rfl
  | 6, _ => rfl
  | 7, _ => rfl
  | j + 8, h => absurd h (by omega)
theorem cvB_mv (wr : Nat → Int64) (n : Nat) (rl : Int32) (M : mvT) (r : List Int64) : cvB wr n rl (mvR M r) = cvB wr n rl r := by
  unfold cvB
  refine congrArg _ (funext fun i => ?_)
  rw [Bool.eq_iff_iff, List.all_eq_true, List.all_eq_true]
  constructor
  · intro q j hj; have := q j hj; rw [dsR_mv rl M r j (List.mem_range.mp hj)] at this; exact this
  · intro q j hj; rw [dsR_mv rl M r j (List.mem_range.mp hj)]; exact q j hj
/-- told and not waived -/
theorem lS_fP {Lc : Nat → List (List Int64)} (wr : Nat → Int64) (n : Nat) (rl : Int32) (f c : Nat) (w : List Nat) (x : List Int64) : x ∈ (lS pl p3 p4 mp Lc f c w).filter (fun r => !cvB wr n rl r) ↔ ∃ d r, r ∈ Lc d ∧ cvB wr n rl r = false ∧ x ∈ lS pl p3 p4 mp (sgl d r) f c w := by
  rw [List.mem_filter, lS_sg]
  constructor
  · rintro ⟨⟨d, r, h1, h2⟩, h3⟩
    obtain ⟨M, rfl⟩ := sg_mv f c w x h2
    refine ⟨d, r, h1, ?_, h2⟩
    have h3 : (!cvB wr n rl (mvR M r)) = true := h3
    rw [cvB_mv] at h3
    simpa using h3
  · rintro ⟨d, r, h1, h3, h2⟩
    obtain ⟨M, rfl⟩ := sg_mv f c w x h2
    refine ⟨⟨d, r, h1, h2⟩, ?_⟩
    show (!cvB wr n rl (mvR M r)) = true
    rw [cvB_mv, h3]; rfl
theorem lS_sub {La Lb : Nat → List (List Int64)} (h : ∀ d r, r ∈ La d → r ∈ Lb d) {f c : Nat} {w : List Nat} {x : List Int64} (hx : x ∈ lS pl p3 p4 mp La f c w) : x ∈ lS pl p3 p4 mp Lb f c w := by
  obtain ⟨d, r, h1, h2⟩ := (lS_sg f c w x).mp hx
  exact (lS_sg f c w x).mpr ⟨d, r, h d r h1, h2⟩
theorem lS_nl {La Lb : Nat → List (List Int64)} (h : ∀ d r, r ∈ La d → r ∈ Lb d) {f c : Nat} {w : List Nat} (hx : lS pl p3 p4 mp Lb f c w = []) : lS pl p3 p4 mp La f c w = [] := by
  refine List.eq_nil_iff_forall_not_mem.mpr (fun x q => ?_)
  have := lS_sub h q
  rw [hx] at this
  exact absurd this (List.not_mem_nil)
theorem sg_sub {Lc : Nat → List (List Int64)} {tc : Nat} {x : List Int64} (hx : x ∈ Lc tc) : ∀ d r, r ∈ sgl tc x d → r ∈ Lc d := by
  intro d r h
  obtain ⟨e1, e2⟩ := sg_m.mp h
  rw [e1, e2]; exact hx
theorem fM_len {α β : Type} {F H : α → List β} : ∀ l : List α, (∀ a, a ∈ l → (F a).length ≤ (H a).length) → (l.flatMap F).length ≤ (l.flatMap H).length
  | [], _ => Nat.le_refl _
  | a :: l, h => by
    rw [List.flatMap_cons, List.flatMap_cons, List.length_append, List.length_append]
    have h1 := h a (List.mem_cons_self)
    have h2 := fM_len l (fun b hb => h b (List.mem_cons_of_mem _ hb))
    omega
theorem lS_len {La Lb : Nat → List (List Int64)} (h : ∀ d, (La d).length ≤ (Lb d).length) : ∀ (f c : Nat) (w : List Nat), (lS pl p3 p4 mp La f c w).length ≤ (lS pl p3 p4 mp Lb f c w).length
  | 0, _, _ => Nat.le_refl _
  | f + 1, c, w => by
    rw [lS_s, lS_s, List.length_append, List.length_append, List.length_map, List.length_map]
    have h1 := h c
    have h2 : ((List.range pl).flatMap (fun i => if p3 i = c then lS pl p3 p4 mp La f (p4 i) (w ++ [i]) else [])).length ≤ ((List.range pl).flatMap (fun i => if p3 i = c then lS pl p3 p4 mp Lb f (p4 i) (w ++ [i]) else [])).length := fM_len _ (fun i _ => by
      by_cases e : p3 i = c
      · rw [if_pos e, if_pos e]; exact lS_len h f (p4 i) (w ++ [i])
      · rw [if_neg e, if_neg e]; exact Nat.le_refl _)
    omega
/-- along a way one row is told -/
theorem sg_way {x : List Int64} : ∀ (w : List Nat) (c d f : Nat) (w0 : List Nat), vwy pl p3 p4 c w d → w.length < f → mvR (mvW mp (w0 ++ w)) x ∈ lS pl p3 p4 mp (sgl d x) f c w0
  | [], c, d, 0, w0, _, h => absurd h (Nat.not_lt_zero _)
  | _ :: _, c, d, 0, w0, _, h => absurd h (Nat.not_lt_zero _)
  | [], c, d, f + 1, w0, hw, _ => by
    rw [lS_s, List.mem_append, List.mem_map]
    exact Or.inl ⟨x, sg_m.mpr ⟨hw, rfl⟩, by rw [List.append_nil]⟩
  | i :: w, c, d, f + 1, w0, hw, h => by
    rw [lS_s, List.mem_append, List.mem_flatMap]
    refine Or.inr ⟨i, List.mem_range.mpr hw.1, ?_⟩
    rw [if_pos hw.2.1]
    have q := sg_way (x := x) w (p4 i) d f (w0 ++ [i]) hw.2.2 (by have : (i :: w).length = w.length + 1 := rfl; omega)
    rw [List.append_assoc] at q
    exact q
end SAMEM
/-- in order of cells -/
theorem ky_a {α : Type} (k : α → Nat) (n : Nat) : ∀ L : List α, L.Pairwise (fun x y => k x ≤ k y) → L.filter (fun x => decide (k x < n + 1)) = L.filter (fun x => decide (k x < n)) ++ L.filter (fun x => decide (k x = n))
  | [], _ => rfl
  | a :: L, h => by
    rw [List.pairwise_cons] at h
    have ih := ky_a k n L h.2
    by_cases e1 : k a < n
    · rw [List.filter_cons_of_pos (by simpa using Nat.lt_succ_of_lt e1), List.filter_cons_of_pos (by simpa using e1), List.filter_cons_of_neg (by simp; omega), ih]; rfl
    · by_cases e2 : k a = n
      · have z : L.filter (fun x => decide (k x < n)) = [] := by
          refine List.filter_eq_nil_iff.mpr (fun x hx => ?_)
          have := h.1 x hx
          simp; omega
        rw [List.filter_cons_of_pos (by simp; omega), List.filter_cons_of_neg (by simp; omega), List.filter_cons_of_pos (by simpa using e2), ih, z]; rfl
      · rw [List.filter_cons_of_neg (by simp; omega), List.filter_cons_of_neg (by simp; omega), List.filter_cons_of_neg (by simpa using e2), ih]
theorem ky_r {α : Type} (k : α → Nat) {L : List α} (h : L.Pairwise (fun x y => k x ≤ k y)) : ∀ n, L.filter (fun x => decide (k x < n)) = (List.range n).flatMap (fun c => L.filter (fun x => decide (k x = c)))
  | 0 => List.filter_eq_nil_iff.mpr (fun x _ => by simp)
  | n + 1 => by
    rw [ky_a k n L h, List.range_succ, List.flatMap_append, ky_r k h n]
    show _ = _ ++ (_ ++ [])
    rw [List.append_nil]
theorem ddN_sb (L : List (List Int64)) : ∀ n, n ≤ L.length → (ddN L n).Sublist (L.take n)
  | 0, _ => by rw [List.take_zero]; exact List.Sublist.refl _
  | n + 1, hn => by
    have ih := ddN_sb L n (by omega)
    have e : L.take (n + 1) = L.take n ++ [L.getD n []] := by
      rw [List.take_succ, List.getD_eq_getElem?_getD, List.getElem?_eq_getElem (by omega)]; rfl
    rw [e]
    show (if _ then _ else _ : List (List Int64)).Sublist _
    split
    · exact ih.trans (List.sublist_append_left _ _)
    · exact ih.append (List.Sublist.refl _)
theorem ddN_m (L : List (List Int64)) (hl : ∀ x, x ∈ L → x.length = 12) : ∀ n, n ≤ L.length → ∀ x, x ∈ L.take n → x ∈ ddN L n
  | 0, _, x, h => by rw [List.take_zero] at h; exact absurd h (List.not_mem_nil)
  | n + 1, hn, x, h => by
    have ih := ddN_m L hl n (by omega) x
    have e : L.take (n + 1) = L.take n ++ [L.getD n []] := by
      rw [List.take_succ, List.getD_eq_getElem?_getD, List.getElem?_eq_getElem (by omega)]; rfl
    have hm : L.getD n [] ∈ L := getD_mem [] (by omega)
    rw [e, List.mem_append, List.mem_singleton] at h
    show x ∈ (if _ then _ else _ : List (List Int64))
    by_cases c : (ddN L n).length ≠ 0 ∧ cmpR false ((ddN L n).getD ((ddN L n).length - 1) []) (L.getD n []) = 0
    · rw [if_pos c]
      rcases h with h | h
      · exact ih h
      · have m := getD_mem (l := ddN L n) [] (show (ddN L n).length - 1 < (ddN L n).length by omega)
        have q := c.2
        unfold cmpR at q
        rw [if_neg (fun q => absurd q.1 (by decide))] at q
        have r := row_x (hl _ (List.mem_of_mem_take ((ddN_sb L n (by omega)).subset m))) (hl _ hm) (fun j hj => (lexC_0 _ _ 12 0).mp q j (Nat.zero_le j) (by omega))
        rw [h, ← r]; exact m
    · rw [if_neg c, List.mem_append]
      rcases h with h | h
      · exact Or.inl (ih h)
      · exact Or.inr (List.mem_singleton.mpr h)
theorem leR_k {x y : List Int64} (h : leR true x y = true) : clR x ≤ clR y := by
  have q := of_decide_eq_true h
  unfold cmpR at q
  have k : x.getD 7 0 ≤ y.getD 7 0 := by
    by_cases e : x.getD 7 0 = y.getD 7 0
    · rw [e]; exact Int64.le_refl _
    · rw [if_pos ⟨rfl, e⟩] at q
      by_cases e2 : x.getD 7 0 < y.getD 7 0
      · exact Int64.le_of_lt e2
      · rw [if_neg e2] at q; exact absurd q (by decide)
  have k := Int64.le_iff_toInt_le.mp k
  unfold clR
  omega
theorem gr_clR {c : Nat} {l : List Int64} (h : gr (c : Int) l) (hc : c < 1000) : clR l = c := by
  obtain ⟨x0, y0, x1, y1, a, e, m, rfl, _⟩ := h
  exact clR_e x0 y0 x1 y1 a e m hc
theorem gr_l12 {c : Int} {l : List Int64} (h : gr c l) : l.length = 12 := by
  obtain ⟨x0, y0, x1, y1, a, e, m, rfl, _⟩ := h; rfl
/-- the class's rows told once, cell by cell -/
theorem sm_all {pl : Nat} {p3 p4 : Nat → Nat} {mp : Nat → mvT} {Lc : Nat → List (List Int64)} {cl : Nat} (hgr : ∀ c l, l ∈ Lc c → gr (c : Int) l) (h16 : ∀ c, Lc c ≠ [] → c < 16) {Z : Nat → Prop} (hL0 : ∀ i, i < pl → Z i → ∀ f w, lS pl p3 p4 mp Lc f (p4 i) w = []) (hEF : (lS pl p3 p4 mp Lc 16 cl []).length ≤ 1500) (wr : Nat → Int64) (nw : Nat) (rl : Int32) (L1 : List (List Int64)) (hp : L1.Perm (((List.range 16).flatMap Lc).filter (fun r => !cvB wr nw rl r))) (hs : L1.Pairwise (fun x y => leR true x y = true)) : ∃ Lq : Nat → List (List Int64), ddN L1 L1.length = (List.range 16).flatMap Lq ∧ (∀ c, c < 16 → ∀ x, x < (Lq c).length → rok ((Lq c).getD x [])) ∧ (∀ c, c < 16 → ∀ x, x < (Lq c).length → ((Lq c).getD x []).getD 7 0 = (nI c).toInt64) ∧ (∀ i, i < pl → Z i → ∀ f w, lS pl p3 p4 mp Lq f (p4 i) w = []) ∧ (lS pl p3 p4 mp Lq 16 cl []).length ≤ 1500 ∧ (∀ r, r ∈ lS pl p3 p4 mp Lq 16 cl [] → ∃ s, s ∈ ((lS pl p3 p4 mp Lc 16 cl []).filter (fun r => !cvB wr nw rl r)) ∧ al7 r s) ∧ ∀ s, s ∈ ((lS pl p3 p4 mp Lc 16 cl []).filter (fun r => !cvB wr nw rl r)) → ∃ r, r ∈ lS pl p3 p4 mp Lq 16 cl [] ∧ al7 r s := by
  have m1 : ∀ x, x ∈ L1 ↔ ∃ d, d < 16 ∧ x ∈ Lc d ∧ cvB wr nw rl x = false := by
    intro x
    rw [hp.mem_iff, List.mem_filter, List.mem_flatMap]
    constructor
    · rintro ⟨⟨d, h1, h2⟩, h3⟩
      exact ⟨d, List.mem_range.mp h1, h2, by simpa using h3⟩
    · rintro ⟨d, h1, h2, h3⟩
      exact ⟨⟨d, List.mem_range.mpr h1, h2⟩, by simpa using h3⟩
  have l12 : ∀ x, x ∈ L1 → x.length = 12 := fun x hx => by
    obtain ⟨d, _, h, _⟩ := (m1 x).mp hx
    exact gr_l12 (hgr d x h)
  have sb : (ddN L1 L1.length).Sublist L1 := by
    have := ddN_sb L1 L1.length (Nat.le_refl _)
    rw [List.take_length] at this; exact this
  have m2 : ∀ x, x ∈ ddN L1 L1.length ↔ x ∈ L1 := fun x => ⟨fun q => sb.subset q, fun q => ddN_m L1 l12 L1.length (Nat.le_refl _) x (by rw [List.take_length]; exact q)⟩
  have kk : ∀ x d, d < 16 → x ∈ Lc d → clR x = d := fun x d hd hx => gr_clR (hgr d x hx) (by omega)
  have mq : ∀ c x, x ∈ (ddN L1 L1.length).filter (fun x => decide (clR x = c)) ↔ x ∈ Lc c ∧ cvB wr nw rl x = false := by
    intro c x
    rw [List.mem_filter, m2, m1]
    constructor
    · rintro ⟨⟨d, h1, h2, h3⟩, h4⟩
      have h4 := of_decide_eq_true h4
      rw [kk x d h1 h2] at h4
      rw [← h4]; exact ⟨h2, h3⟩
    · rintro ⟨h2, h3⟩
      have h1 := h16 c (fun q => by rw [q] at h2; exact absurd h2 (List.not_mem_nil))
      exact ⟨⟨c, h1, h2, h3⟩, decide_eq_true (kk x c h1 h2)⟩
  refine ⟨fun c => (ddN L1 L1.length).filter (fun x => decide (clR x = c)), ?_, ?_, ?_, ?_, ?_, ?_, ?_⟩
  · have ks : (ddN L1 L1.length).Pairwise (fun x y => clR x ≤ clR y) := (hs.sublist sb).imp (fun q => leR_k q)
    rw [← ky_r clR ks 16]
    refine (List.filter_eq_self.mpr (fun x hx => ?_)).symm
    obtain ⟨d, h1, h2, _⟩ := (m1 x).mp ((m2 x).mp hx)
    exact decide_eq_true (by rw [kk x d h1 h2]; exact h1)
  · intro c hc x hx
    exact gr_rok (hgr c _ ((mq c _).mp (getD_mem [] hx)).1) (by omega)
  · intro c hc x hx
    exact (gr_7 (hgr c _ ((mq c _).mp (getD_mem [] hx)).1)).trans (show (nI c).toInt64 = jN (c : Int) from iN_64 (x := (c : Int)) (by omega) (by omega)).symm
  · intro i hi hz f w
    exact lS_nl (fun d r q => ((mq d r).mp q).1) (hL0 i hi hz f w)
  · refine Nat.le_trans (lS_len (fun d => ?_) 16 cl []) hEF
    have e1 := (sb.filter (fun x => decide (clR x = d))).length_le
    have e2 := (hp.filter (fun x => decide (clR x = d))).length_eq
    have e3 : ((((List.range 16).flatMap Lc).filter (fun r => !cvB wr nw rl r)).filter (fun x => decide (clR x = d))).length ≤ (((List.range 16).flatMap Lc).filter (fun x => decide (clR x = d))).length := ((List.filter_sublist (p := fun r => !cvB wr nw rl r)).filter (fun x => decide (clR x = d))).length_le
    have e4 : (((List.range 16).flatMap Lc).filter (fun x => decide (clR x = d))).length ≤ (Lc d).length := by
      rw [List.filter_flatMap]
      by_cases hd : d < 16
      · refine Nat.le_trans (fM_len (H := fun c => if c = d then Lc d else []) _ (fun c hc => ?_)) (Nat.le_of_eq (congrArg List.length (lcW_r (Lc d) d 16 hd)))
        by_cases e : c = d
        · rw [if_pos e, e]; exact List.length_filter_le _ _
        · rw [if_neg e]
          refine Nat.le_of_eq (congrArg List.length (List.filter_eq_nil_iff.mpr (fun x hx => ?_)))
          rw [kk x c (List.mem_range.mp hc) hx]
          simpa using e
      · refine Nat.le_trans (fM_len (H := fun _ => []) _ (fun c hc => ?_)) (by rw [fM_z _ (fun _ _ => rfl)]; exact Nat.zero_le _)
        refine Nat.le_of_eq (congrArg List.length (List.filter_eq_nil_iff.mpr (fun x hx => ?_)))
        have hc := List.mem_range.mp hc
        rw [kk x c hc hx]
        have : c ≠ d := by omega
        simpa using this
    show ((ddN L1 L1.length).filter (fun x => decide (clR x = d))).length ≤ _
    omega
  · intro r hr
    obtain ⟨d, r0, h1, h2⟩ := (lS_sg 16 cl [] r).mp hr
    have h1 := (mq d r0).mp h1
    exact ⟨r, (lS_fP wr nw rl 16 cl [] r).mpr ⟨d, r0, h1.1, h1.2, h2⟩, fun _ _ => rfl⟩
  · intro s hs'
    obtain ⟨d, r0, h1, h3, h2⟩ := (lS_fP wr nw rl 16 cl [] s).mp hs'
    exact ⟨s, (lS_sg 16 cl [] s).mpr ⟨d, r0, (mq d r0).mpr ⟨h1, h3⟩, h2⟩, fun _ _ => rfl⟩
/-- what the model asks of its rows -/
theorem sm_eg {nc pl : Nat} {p3 p4 : Nat → Nat} {mp : Nat → mvT} {Lc : Nat → List (List Int64)} {cl : Nat} (hgr : ∀ c l, l ∈ Lc c → gr (c : Int) l) (hnc : ∀ c, Lc c ≠ [] → c < nc) {Z : Nat → Prop} (hL0 : ∀ i, i < pl → gr_R pl p3 p4 cl (p3 i) → Z i → ∀ f w, lS pl p3 p4 mp Lc f (p4 i) w = []) (wr : Nat → Int64) (nw : Nat) (rl : Int32) {Q0 Q1 : List (List Int64)} (h0 : Q0.Perm ((List.range 16).flatMap Lc)) (h1 : Q1.Perm (lS pl p3 p4 mp Lc 16 cl [])) : ∀ x, x ∈ Q0 → ∃ (x0 y0 x1 y1 aI eI m : Int) (tc : Nat), x = rwI x0 y0 x1 y1 aI eI m (tc : Int) ∧ tc < nc ∧ ((-200000 ≤ x0 ∧ x0 ≤ 200000) ∧ (-200000 ≤ y0 ∧ y0 ≤ 200000) ∧ (-200000 ≤ x1 ∧ x1 ≤ 200000) ∧ (-200000 ≤ y1 ∧ y1 ≤ 200000)) ∧ (cvB wr nw rl x = false → ∀ w, vwy pl p3 p4 cl w tc → w.length < 16 → (Q1.filter (fun x => !cvB wr nw rl x)).any (fun y => alk y (xrW mp x0 y0 x1 y1 aI eI m (tc : Int) w) 7) = true) ∧ (∀ i, i < pl → gr_R pl p3 p4 cl (p3 i) → Z i → ∀ f w, lS pl p3 p4 mp (sgl tc (rwI x0 y0 x1 y1 aI eI m (tc : Int))) f (p4 i) w = []) := by
  intro x hx
  obtain ⟨tc, _, hm⟩ := List.mem_flatMap.mp (h0.mem_iff.mp hx)
  obtain ⟨x0, y0, x1, y1, aI, eI, m, e, b1, b2, b3, _⟩ := hgr tc x hm
  refine ⟨x0, y0, x1, y1, aI, eI, m, tc, e, hnc tc (fun q => by rw [q] at hm; exact absurd hm (List.not_mem_nil)), by omega, ?_, ?_⟩
  · intro hv w hw hl
    refine List.any_eq_true.mpr ⟨xrW mp x0 y0 x1 y1 aI eI m (tc : Int) w, ?_, alk_7.mpr (fun _ _ => rfl)⟩
    have k : mvR (mvW mp ([] ++ w)) x ∈ lS pl p3 p4 mp (sgl tc x) 16 cl [] := sg_way w cl tc 16 [] hw hl
    have k2 := (lS_fP (Lc := Lc) wr nw rl 16 cl [] _).mpr ⟨tc, x, hm, hv, k⟩
    rw [← (h1.filter _).mem_iff] at k2
    rw [e] at k2
    exact k2
  · intro i hi hg hz f w
    rw [← e]
    exact lS_nl (sg_sub hm) (hL0 i hi hg hz f w)
theorem sm_al {pl : Nat} {p3 p4 : Nat → Nat} {mp : Nat → mvT} {Lc : Nat → List (List Int64)} {cl : Nat} (hgr : ∀ c l, l ∈ Lc c → gr (c : Int) l) (h16 : ∀ c, Lc c ≠ [] → c < 16) (wr : Nat → Int64) (nw : Nat) (rl : Int32) {Q0 Q1 : List (List Int64)} (h0 : Q0.Perm ((List.range 16).flatMap Lc)) (h1 : Q1.Perm (lS pl p3 p4 mp Lc 16 cl [])) : ∀ i9, i9 < (Q1.filter (fun x => !cvB wr nw rl x)).length → ((Q0.filter (fun x => !cvB wr nw rl x)).flatMap (vwR pl p3 p4 mp cl)).any (fun x => alk ((Q1.filter (fun x => !cvB wr nw rl x)).getD i9 []) x 7) = true := by
  intro i hi
  have hm := (h1.filter (fun x => !cvB wr nw rl x)).mem_iff.mp (getD_mem [] hi)
  obtain ⟨d, r, a1, a2, a3⟩ := (lS_fP wr nw rl 16 cl [] _).mp hm
  have hd := h16 d (fun q => by rw [q] at a1; exact absurd a1 (List.not_mem_nil))
  refine List.any_eq_true.mpr ⟨_, List.mem_flatMap.mpr ⟨r, List.mem_filter.mpr ⟨h0.mem_iff.mpr (List.mem_flatMap.mpr ⟨d, List.mem_range.mpr hd, a1⟩), by rw [a2]; rfl⟩, ?_⟩, alk_7.mpr (fun _ _ => rfl)⟩
  unfold vwR
  rw [gr_clR (hgr d r a1) (by omega)]
  exact a3
section SAMEL
variable {nc np pl : Nat} {R : Nat → Bool} {hm p3 p4 : Nat → Nat} {ly vo ar : Nat → Int32} {mp : Nat → mvT} {sz : Nat → Nat} {X Y : Nat → Nat → Int} {fc : Nat → Nat → Nat} {oc : Nat → Nat → Option Nat} {rk : Nat → Nat}
theorem lcA_nc (kd : Nat) (l1 l2 x3 x4 x5 x6 : Int32) (g : Nat → Bool) {cl : Nat} (hcl : cl < nc) : ∀ c, lcA kd l1 l2 x3 x4 x5 x6 np pl R hm p3 p4 ly vo ar mp sz X Y fc oc nc g cl c ≠ [] → c < nc := by
  intro c hne
  by_cases k : kd = 5 ∨ kd = 6
  · rw [lcA_w k] at hne
    have e : c = cl := Decidable.of_not_not (fun q => hne (if_neg q))
    rw [e]; exact hcl
  · rw [lcA_c k] at hne
    have e : c < nc ∧ g c = true := Decidable.of_not_not (fun q => hne (if_neg q))
    exact e.1
theorem lyh_mb (H : lyh nc np pl R hm p3 p4 vo ar mp sz X Y fc oc rk) : ∀ w : List Nat, (∀ i, i ∈ w → i < pl) → w.length < 16 → ∀ x y : Int, -200000 ≤ x ∧ x ≤ 200000 → -200000 ≤ y ∧ y ≤ 200000 → (-1000000000 ≤ (mvA (mvW mp w) (x, y)).1 ∧ (mvA (mvW mp w) (x, y)).1 ≤ 1000000000) ∧ (-1000000000 ≤ (mvA (mvW mp w) (x, y)).2 ∧ (mvA (mvW mp w) (x, y)).2 ≤ 1000000000) := by
  intro w hw hl x y hx hy
  have hM := H.2.2.2.2.2.2.2.1
  have k := mvW_b (mp := mp) w.length w rfl (fun i hi => hM i (hw i hi))
  have m := mvA_b (M := mvW mp w) (p := (x, y)) (A := 200000) (B := 10000 * (w.length : Int)) hx hy k.1 k.2
  omega
end SAMEL
