/-- a row of cell c as it is told -/
def gr (c : Int) (l : List Int64) : Prop := ∃ x0 y0 x1 y1 a e m : Int, l = rwI x0 y0 x1 y1 a e m c ∧ (x0 ≤ x1 ∧ y0 ≤ y1) ∧ (-200000 ≤ x0 ∧ x1 ≤ 200000) ∧ (-200000 ≤ y0 ∧ y1 ≤ 200000) ∧ (-1 ≤ a ∧ a < 64) ∧ (-1 ≤ e ∧ e < 64)
theorem mvR_rw (M : mvT) {x0 y0 x1 y1 : Int} (a e m c : Int) (h : (-200000 ≤ x0 ∧ x0 ≤ 200000) ∧ (-200000 ≤ y0 ∧ y0 ≤ 200000) ∧ (-200000 ≤ x1 ∧ x1 ≤ 200000) ∧ (-200000 ≤ y1 ∧ y1 ≤ 200000)) : mvR M (rwI x0 y0 x1 y1 a e m c) = [jN (min (mvA M (x0, y0)).1 (mvA M (x1, y1)).1), jN (min (mvA M (x0, y0)).2 (mvA M (x1, y1)).2), jN (max (mvA M (x0, y0)).1 (mvA M (x1, y1)).1), jN (max (mvA M (x0, y0)).2 (mvA M (x1, y1)).2), jN a, jN e, jN m, jN c, jN x0, jN y0, jN x1, jN y1] := by
  unfold mvR rwI
  simp only [List.getD_cons_zero, List.getD_cons_succ]
  rw [jN_to (a := x0) (by omega) (by omega), jN_to (a := y0) (by omega) (by omega), jN_to (a := x1) (by omega) (by omega), jN_to (a := y1) (by omega) (by omega)]
theorem gr_n {c : Int} {l : List Int64} (h : gr c l) : mvR mvI l = l := by
  obtain ⟨x0, y0, x1, y1, a, e, m, rfl, h1, h2, h3, _⟩ := h
  rw [mvR_rw mvI a e m c (by omega), mvI_A, mvI_A]
  show [jN (min x0 x1), jN (min y0 y1), jN (max x0 x1), jN (max y0 y1), jN a, jN e, jN m, jN c, jN x0, jN y0, jN x1, jN y1] = rwI x0 y0 x1 y1 a e m c
  rw [Int.min_eq_left h1.1, Int.min_eq_left h1.2, Int.max_eq_right h1.1, Int.max_eq_right h1.2]; rfl
theorem gr_7 {c : Int} {l : List Int64} (h : gr c l) : l.getD 7 0 = jN c := by
  obtain ⟨x0, y0, x1, y1, a, e, m, rfl, _⟩ := h
  rfl
theorem gr_len {c : Int} {l : List Int64} (h : gr c l) : l.length = 12 := by
  obtain ⟨x0, y0, x1, y1, a, e, m, rfl, _⟩ := h
  rfl
theorem gr_rok {c : Int} {l : List Int64} (h : gr c l) (hc : 0 ≤ c ∧ c < 16) : rok l := by
  obtain ⟨x0, y0, x1, y1, a, e, m, rfl, h1, h2, h3, h4, h5⟩ := h
  intro j hj h6
  have k : j = 0 ∨ j = 1 ∨ j = 2 ∨ j = 3 ∨ j = 4 ∨ j = 5 ∨ j = 7 ∨ j = 8 ∨ j = 9 ∨ j = 10 ∨ j = 11 := by omega
  have t : ∀ v : Int, -200000 ≤ v ∧ v ≤ 200000 → -400000 ≤ (jN v).toInt ∧ (jN v).toInt ≤ 400000 := fun v hv => by rw [jN_to (by omega) (by omega)]; omega
  rcases k with rfl | rfl | rfl | rfl | rfl | rfl | rfl | rfl | rfl | rfl | rfl
  · exact t x0 (by omega)
  · exact t y0 (by omega)
  · exact t x1 (by omega)
  · exact t y1 (by omega)
  · exact t a (by omega)
  · exact t e (by omega)
  · exact t c (by omega)
  · exact t x0 (by omega)
  · exact t y0 (by omega)
  · exact t x1 (by omega)
  · exact t y1 (by omega)
theorem mvR_len (M : mvT) (l : List Int64) : (mvR M l).length = 12 := rfl
theorem gr_ac {up : Bool} {near lim lr : Int} (h1 : 0 ≤ near) (h2 : 1 ≤ lr) {en : Int32} {a e hm : Int} (ha : -1 ≤ a ∧ a < 64) (he : -1 ≤ e ∧ e < 64) {L1 L2 : List iT} (b1 : ∀ s, s ∈ L1 → ib s) (b2 : ∀ s, s ∈ L2 → ib s) {l : List Int64} (h : l ∈ acL up near lim lr en a e hm L1 L2) : gr hm l := by
  unfold acL at h
  obtain ⟨s, hs, h⟩ := List.mem_flatMap.mp h
  obtain ⟨t, ht, h⟩ := List.mem_flatMap.mp h
  have c1 := b1 s hs
  have c2 := b2 t ht
  unfold ib at c1 c2
  unfold acR at h
  split at h
  · next k =>
    rw [List.mem_singleton] at h
    cases up
    · exact ⟨_, _, _, _, a, e, _, h, by omega, by omega, by omega, ha, he⟩
    · exact ⟨_, _, _, _, a, e, _, h, by omega, by omega, by omega, ha, he⟩
  · exact absurd h (List.not_mem_nil)
theorem gr_co {up : Bool} {lim : Int} {a e hm : Int} (ha : -1 ≤ a ∧ a < 64) (he : -1 ≤ e ∧ e < 64) {L1 L2 : List iT} (b1 : ∀ s : iT, s ∈ L1 → (-200000 ≤ s.1 ∧ s.1 ≤ 200000) ∧ (-200000 ≤ s.2.1 ∧ s.2.1 ≤ 200000)) (b2 : ∀ s : iT, s ∈ L2 → (-200000 ≤ s.1 ∧ s.1 ≤ 200000) ∧ (-200000 ≤ s.2.1 ∧ s.2.1 ≤ 200000)) {l : List Int64} (h : l ∈ coL up lim a e hm L1 L2) : gr hm l := by
  unfold coL at h
  obtain ⟨s, hs, h⟩ := List.mem_flatMap.mp h
  obtain ⟨t, ht, h⟩ := List.mem_flatMap.mp h
  have c1 := b1 s hs
  have c2 := b2 t ht
  unfold coR at h
  cases up
  · rw [if_neg (show ¬ false = true by decide)] at h
    split at h
    · next k =>
      rw [List.mem_singleton] at h
      exact ⟨_, _, _, _, a, e, _, h, by omega, by omega, by omega, ha, he⟩
    · exact absurd h (List.not_mem_nil)
  · rw [if_pos (show true = true from rfl)] at h
    split at h
    · next k =>
      rw [List.mem_singleton] at h
      exact ⟨_, _, _, _, a, e, _, h, by omega, by omega, by omega, ha, he⟩
    · exact absurd h (List.not_mem_nil)
section ONES
variable {mp : Nat → mvT} {sz : Nat → Nat} {X Y : Nat → Nat → Int} {fc : Nat → Nat → Nat} {oc : Nat → Nat → Option Nat} {q r : List Nat × Nat}
theorem gr_bK (kd : Nat) (x3 x4 x5 x6 : Int32) (hmI : Int) (vo : Nat → Int32) (hq : qok mp sz X Y fc oc q) (hr : qok mp sz X Y fc oc r) (pq : q.2 < 64) (pr : r.2 < 64) {l : List Int64} (h : l ∈ bK kd x3 x4 x5 x6 hmI vo mp sz X Y fc oc q r) : gr hmI l := by
  have cq := hq.2.2.2.2.2.2
  have cr := hr.2.2.2.2.2.2
  have lr1 := lrn_1 x4
  have nk : (0 : Int) ≤ (if kd = 9 then 0 else 1) := by split <;> omega
  have sq : ∀ f, ∀ s, s ∈ sideL mp sz X Y fc q f → ib s := fun f s hs => sd_b cq hs
  have sr : ∀ f, ∀ s, s ∈ sideL mp sz X Y fc r f → ib s := fun f s hs => sd_b cr hs
  unfold bK at h
  split at h
  · split at h
    · unfold jCo at h
      rcases List.mem_append.mp h with h | h <;> rcases List.mem_append.mp h with h | h
      · exact gr_co (by omega) (by omega) (fun s hs => co_b2 cq hs) (fun s hs => co_b2 cr hs) h
      · exact gr_co (by omega) (by omega) (fun s hs => co_b2 cq hs) (fun s hs => co_b2 cr hs) h
      · exact gr_co (by omega) (by omega) (fun s hs => co_b2 cr hs) (fun s hs => co_b2 cq hs) h
      · exact gr_co (by omega) (by omega) (fun s hs => co_b2 cr hs) (fun s hs => co_b2 cq hs) h
    · split at h
      · unfold jSp acq at h
        rcases List.mem_append.mp h with h | h <;> rcases List.mem_append.mp h with h | h
        · exact gr_ac nk lr1 (a := (q.2 : Int)) (e := (r.2 : Int)) (by omega) (by omega) (sq _) (sr _) h
        · exact gr_ac nk lr1 (a := (q.2 : Int)) (e := (r.2 : Int)) (by omega) (by omega) (sq _) (sr _) h
        · exact gr_ac nk lr1 (a := (r.2 : Int)) (e := (q.2 : Int)) (by omega) (by omega) (sr _) (sq _) h
        · exact gr_ac nk lr1 (a := (r.2 : Int)) (e := (q.2 : Int)) (by omega) (by omega) (sr _) (sq _) h
      · split at h
        · unfold jOv acq at h
          rcases List.mem_append.mp h with h | h <;> rcases List.mem_append.mp h with h | h
          · exact gr_ac nk lr1 (a := (q.2 : Int)) (e := (r.2 : Int)) (by omega) (by omega) (sr _) (sq _) h
          · exact gr_ac nk lr1 (a := (q.2 : Int)) (e := (r.2 : Int)) (by omega) (by omega) (sr _) (sq _) h
          · exact gr_ac nk lr1 (a := (r.2 : Int)) (e := (q.2 : Int)) (by omega) (by omega) (sq _) (sr _) h
          · exact gr_ac nk lr1 (a := (r.2 : Int)) (e := (q.2 : Int)) (by omega) (by omega) (sq _) (sr _) h
        · unfold acq at h
          rcases List.mem_append.mp h with h | h
          · exact gr_ac nk lr1 (by omega) (by omega) (sq _) (sr _) h
          · rcases List.mem_append.mp h with h | h
            · exact gr_ac nk lr1 (by omega) (by omega) (sq _) (sr _) h
            · rcases List.mem_append.mp h with h | h
              · exact gr_ac nk lr1 (by omega) (by omega) (sr _) (sq _) h
              · exact gr_ac nk lr1 (by omega) (by omega) (sr _) (sq _) h
  · exact absurd h (List.not_mem_nil)
theorem gr_jPr (kd : Nat) (hkd : kd = 7 ∨ kd = 8 ∨ kd = 9 ∨ kd = 10) (l1 l2 x3 x4 x5 x6 : Int32) (h3 : 0 ≤ x3.toInt) (h5 : x5 = -1 ∨ 0 ≤ x5) (h59 : kd = 9 ∨ kd = 10 → x5 = -1) (hmI : Int) (ly vo : Nat → Int32) (hq : qok mp sz X Y fc oc q) (hr : qok mp sz X Y fc oc r) (vq : -1000000 ≤ (vo q.2).toInt ∧ (vo q.2).toInt ≤ 1000000) (vr : -1000000 ≤ (vo r.2).toInt ∧ (vo r.2).toInt ≤ 1000000) (pq : q.2 < 64) (pr : r.2 < 64) {l : List Int64} (h : l ∈ jPr kd l1 l2 x3 x4 x5 x6 hmI ly vo mp sz X Y (kT kd mp sz X Y fc oc) [q, r] 0 1) : gr hmI l := by
  have k := (jPr_e kd hkd l1 l2 x3 x4 x5 x6 h3 h5 h59 hmI ly vo hq hr vq vr).mem_iff.mpr h
  rcases List.mem_append.mp k with k | k
  · split at k
    · exact gr_bK kd x3 x4 x5 x6 hmI vo hq hr pq pr k
    · exact absurd k (List.not_mem_nil)
  · split at k
    · exact gr_bK kd x3 x4 x5 x6 hmI vo hr hq pr pq k
    · exact absurd k (List.not_mem_nil)
theorem bx_le (hn : 0 < sz q.2) : bxO mp sz X Y q 0 ≤ bxO mp sz X Y q 2 ∧ bxO mp sz X Y q 1 ≤ bxO mp sz X Y q 3 := by
  have a := bx_in (mp := mp) (sz := sz) (X := X) (Y := Y) (q := q) (i := 0) hn
  omega
theorem bx_bd (hn : 0 < sz q.2) (hc : cbd (cor mp X Y q) (sz q.2)) : (-200000 ≤ bxO mp sz X Y q 0 ∧ bxO mp sz X Y q 2 ≤ 200000) ∧ (-200000 ≤ bxO mp sz X Y q 1 ∧ bxO mp sz X Y q 3 ≤ 200000) := by
  have k : ∀ (f : Nat → Int) (n : Nat), (∀ i, i ≤ n → -200000 ≤ f i ∧ f i ≤ 200000) → -200000 ≤ mnF f n ∧ mxF f n ≤ 200000 := by
    intro f n
    induction n with
    | zero => intro h; exact ⟨(h 0 (Nat.le_refl 0)).1, (h 0 (Nat.le_refl 0)).2⟩
    | succ n ih =>
      intro h
      have a := ih (fun i hi => h i (by omega))
      have b := h (n + 1) (Nat.le_refl _)
      show _ ≤ min (mnF f n) (f (n + 1)) ∧ max (mxF f n) (f (n + 1)) ≤ _
      omega
  have a := k (fun i => (cor mp X Y q i).1) (sz q.2 - 1) (fun i hi => (hc i (by omega)).1)
  have b := k (fun i => (cor mp X Y q i).2) (sz q.2 - 1) (fun i hi => (hc i (by omega)).2)
  exact ⟨a, b⟩
theorem gr_jOn (kd : Nat) (x3 x4 x6 : Int32) (hmI : Int) (ar : Nat → Int32) (hq : qok mp sz X Y fc oc q) (pq : q.2 < 64) {l : List Int64} (h : l ∈ jOn kd x3 x4 x6 hmI ar mp sz X Y (sideL mp sz X Y fc) [q] 0) : gr hmI l := by
  have cq := hq.2.2.2.2.2.2
  have n0 : 0 < sz q.2 := by have := hq.1; omega
  have lr1 := lrn_1 x4
  have nk : (0 : Int) ≤ (if kd = 9 then 0 else 1) := by split <;> omega
  have sq : ∀ f, ∀ s, s ∈ sideL mp sz X Y fc q f → ib s := fun f s hs => sd_b cq hs
  have ms : ∀ m : Int, l ∈ jMs x3 hmI mp sz X Y q m → gr hmI l := fun m k => by
    unfold jMs at k
    split at k
    · rw [List.mem_singleton] at k
      have a := bx_le (mp := mp) (X := X) (Y := Y) n0
      have b := bx_bd n0 cq
      exact ⟨_, _, _, _, (q.2 : Int), -1, m, k, a, b.1, b.2, by omega, by omega⟩
    · exact absurd k (List.not_mem_nil)
  unfold jOn at h
  split at h
  · unfold acq at h
    rcases List.mem_append.mp h with h | h
    · exact gr_ac nk lr1 (a := (q.2 : Int)) (e := -1) (by omega) (by omega) (sq _) (sq _) h
    · exact gr_ac nk lr1 (a := (q.2 : Int)) (e := -1) (by omega) (by omega) (sq _) (sq _) h
  · split at h
    · unfold acq at h
      rcases List.mem_append.mp h with h | h
      · exact gr_ac nk lr1 (a := (q.2 : Int)) (e := -1) (by omega) (by omega) (sq _) (sq _) h
      · exact gr_ac nk lr1 (a := (q.2 : Int)) (e := -1) (by omega) (by omega) (sq _) (sq _) h
    · split at h
      · exact ms _ h
      · split at h
        · exact ms _ h
        · unfold jEd at h
          obtain ⟨f, _, h⟩ := List.mem_flatMap.mp h
          obtain ⟨s, hs, h⟩ := List.mem_flatMap.mp h
          have hs : s ∈ sideL mp sz X Y fc q f := hs
          have a := sd_b cq hs
          have b := (sd_in hs).1
          unfold ib at a
          unfold edR at h
          split at h
          · rw [List.mem_singleton] at h
            by_cases e : upr f = true
            · rw [if_pos e] at h
              exact ⟨_, _, _, _, (q.2 : Int), -1, _, h, by omega, by omega, by omega, by omega, by omega⟩
            · rw [if_neg e] at h
              exact ⟨_, _, _, _, (q.2 : Int), -1, _, h, by omega, by omega, by omega, by omega, by omega⟩
          · exact absurd h (List.not_mem_nil)
/-- what one polygon tells -/
theorem aQ_e (p : Nat) (hq : qok mp sz X Y fc oc ([], p)) (M : mvT) (kd : Nat) (hkd : kd < 5) (x3 x4 x6 : Int32) (hmI : Int) (ar : Nat → Int32) {A : Int} (hA : A = (ar p).toInt) : (aQ M kd x3 x4 x6 hmI (fun _ => sz p) (fun _ => p) (fun _ => crR (cor mp X Y ([], p)) (sz p)) A).Perm ((jOn kd x3 x4 x6 hmI ar mp sz X Y (sideL mp sz X Y fc) [([], p)] 0).map (mvR M)) := by
  have n0 : 0 < sz p := by have : 4 ≤ sz p := hq.1; omega
  have g : ∀ fV fW : Nat, gQ M x3 x4 x6 hmI (fun _ => sz p) (fun _ => p) (fun _ => crR (cor mp X Y ([], p)) (sz p)) 0 fV 0 fW 1 0 = (acL (upr fV) 1 x3.toInt (lrn x4).toInt x6 (p : Int) (-1) hmI (sideL mp sz X Y fc ([], p) fV) (sideL mp sz X Y fc ([], p) fW)).map (mvR M) := fun fV fW => by
    exact (gQ_e (n := fun _ => sz p) (pg := fun _ => p) (cc := fun _ => crR (cor mp X Y ([], p)) (sz p)) (v := 0) (w := 0) hq hq rfl rfl rfl rfl M x3 x4 x6 hmI fV fW 1 0).trans rfl
  have ms : ∀ m : Int, aQm M x3 hmI (fun _ => sz p) (fun _ => p) (fun _ => crR (cor mp X Y ([], p)) (sz p)) m = (jMs x3 hmI mp sz X Y ([], p) m).map (mvR M) := fun m => by
    unfold aQm jMs bxO
    rw [bxk_cr n0, bxk_cr n0, bxk_cr n0, bxk_cr n0]
    split <;> rfl
  unfold aQ aQ1 jOn
  have k : kd = 0 ∨ kd = 1 ∨ kd = 2 ∨ kd = 3 ∨ kd = 4 := by omega
  rcases k with rfl | rfl | rfl | rfl | rfl
  · rw [if_pos rfl, if_pos rfl, if_neg (by decide), List.append_nil, g, g, List.map_append]
    exact List.Perm.refl _
  · rw [if_neg (by decide), if_pos rfl, if_neg (by decide), if_pos rfl, if_neg (by decide), List.append_nil, g, g, List.map_append]
    exact List.Perm.refl _
  · rw [if_neg (by decide), if_neg (by decide), if_pos rfl, if_neg (by decide), if_neg (by decide), if_pos rfl, if_neg (by decide), List.append_nil, ms, hA]
    exact List.Perm.refl _
  · rw [if_neg (by decide), if_neg (by decide), if_neg (by decide), if_neg (by decide), if_pos rfl, if_neg (by decide), if_neg (by decide), if_neg (by decide), if_neg (by decide), List.nil_append]
    unfold aQe jEd
    rw [fM_m]
    have e1 : ∀ f, f < 4 → ((sideL mp sz X Y fc ([], p) f).flatMap (edR x3 (p : Int) hmI f)).map (mvR M) = (List.range (sz p)).flatMap (fun i => if fcM (twS (crR (cor mp X Y ([], p)) (sz p)) (sz p)) (crR (cor mp X Y ([], p)) (sz p)) i = f then (edR x3 (p : Int) hmI (fcM (twS (crR (cor mp X Y ([], p)) (sz p)) (sz p)) (crR (cor mp X Y ([], p)) (sz p)) i) (itM (crR (cor mp X Y ([], p)) (sz p)) i)).map (mvR M) else []) := fun f _ => by
      have := side_e hq f
      rw [← this]
      unfold slP
      rw [fM_m, fM_c, fM_f]
      refine fM_e _ (fun i _ => ?_)
      by_cases e : fcM (twS (crR (cor mp X Y ([], p)) (sz p)) (sz p)) (crR (cor mp X Y ([], p)) (sz p)) i = f
      · rw [if_pos e, if_pos (decide_eq_true e), e]
      · rw [if_neg e, if_neg (fun z => e (of_decide_eq_true z))]
    refine List.Perm.trans ?_ (List.Perm.of_eq (fM_e (List.range 4) (fun f hf => (e1 f (List.mem_range.mp hf)).symm)))
    refine List.Perm.trans ?_ (fM_x _ _ _)
    refine fM_p _ (fun i _ => ?_)
    have h4 : fcM (twS (crR (cor mp X Y ([], p)) (sz p)) (sz p)) (crR (cor mp X Y ([], p)) (sz p)) i < 4 := by
      unfold fcM toM
      repeat (first | omega | split)
    show ((edR x3 (p : Int) hmI (fcM (twS (crR (cor mp X Y ([], p)) (sz p)) (sz p)) (crR (cor mp X Y ([], p)) (sz p)) i) (itM (crR (cor mp X Y ([], p)) (sz p)) i)).map (mvR M)).Perm _
    generalize fcM (twS (crR (cor mp X Y ([], p)) (sz p)) (sz p)) (crR (cor mp X Y ([], p)) (sz p)) i = f0 at h4 ⊢
    refine List.Perm.of_eq ?_
    have r4 : ∀ F : Nat → List (List Int64), (List.range 4).flatMap F = F 0 ++ (F 1 ++ (F 2 ++ (F 3 ++ []))) := fun F => rfl
    rw [r4]
    rcases sv_q4 h4 with rfl | rfl | rfl | rfl <;> simp
  · rw [if_neg (by decide), if_neg (by decide), if_neg (by decide), if_pos rfl, if_neg (by decide), if_neg (by decide), if_neg (by decide), if_neg (by decide), if_pos rfl, List.append_nil, ms]
    exact List.Perm.refl _
end ONES
