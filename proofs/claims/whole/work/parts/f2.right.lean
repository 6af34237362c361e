section RIGHT
variable {n : Nat} {X Y : Nat → Int32}
/-- corners as whole numbers -/
def cI (X Y : Nat → Int32) (i : Nat) : Int × Int := ((X i).toInt, (Y i).toInt)
theorem co_b {x : Int32} (h : ab_co x) : -10000 ≤ x.toInt ∧ x.toInt ≤ 10000 := by
  obtain ⟨h1, h2⟩ := h
  rw [Int32.le_iff_toInt_le] at h1 h2
  exact ⟨h1, h2⟩
theorem aft_bef {i : Nat} (h : i < n) : gm_aft n (gm_bef n i) = i := by
  unfold gm_aft gm_bef
  split
  · next e => rw [if_neg (by omega), e]
  · next e => rw [if_pos (by omega)]; omega
theorem ti_e {x y : Int32} : x.toInt = y.toInt ↔ x = y := Int32.toInt_inj
theorem rt_rc (hs : ∀ i, i + 1 < n → ¬ (X (i + 1) = X i ↔ Y (i + 1) = Y i)) (hr : gm_right n X Y) : rcI n (cI X Y) := by
  intro i hi
  have k : ¬ (X (gm_aft n i) = X i ↔ Y (gm_aft n i) = Y i) := by
    unfold gm_aft
    split
    · next e => exact hs i e
    · next e =>
      have e2 : i = n - 1 := by omega
      rw [e2]
      exact hr.1.2
  show ((X i).toInt = (X (gm_aft n i)).toInt ∧ (Y i).toInt ≠ (Y (gm_aft n i)).toInt) ∨ ((Y i).toInt = (Y (gm_aft n i)).toInt ∧ (X i).toInt ≠ (X (gm_aft n i)).toInt)
  rw [Ne, Ne, ti_e, ti_e]
  by_cases e1 : X i = X (gm_aft n i) <;> by_cases e2 : Y i = Y (gm_aft n i)
  · exact absurd ⟨fun _ => e2.symm, fun _ => e1.symm⟩ k
  · exact Or.inl ⟨e1, e2⟩
  · exact Or.inr ⟨e2, e1⟩
  · exact absurd ⟨fun q => absurd q.symm e1, fun q => absurd q.symm e2⟩ k
theorem hd_par (i : Nat) : hdI n (cI X Y) i % 2 = 1 ↔ X i = X (gm_aft n i) := by
  have a1 : (cI X Y i).1 = (cI X Y (gm_aft n i)).1 ↔ X i = X (gm_aft n i) := ti_e
  unfold hdI
  by_cases e : (cI X Y i).1 = (cI X Y (gm_aft n i)).1
  · rw [if_pos e]
    split
    · exact ⟨fun _ => a1.mp e, fun _ => rfl⟩
    · exact ⟨fun _ => a1.mp e, fun _ => rfl⟩
  · rw [if_neg e]
    split
    · exact ⟨fun q => absurd q (by decide), fun q => absurd (a1.mpr q) e⟩
    · exact ⟨fun q => absurd q (by decide), fun q => absurd (a1.mpr q) e⟩
theorem rt_al (hr : gm_right n X Y) : alI n (cI X Y) := by
  intro i hi q
  have k := hr.2.1 (gm_bef n i) (bef_lt hi)
  rw [aft_bef hi] at k
  have a := hd_par (n := n) (X := X) (Y := Y) (gm_bef n i)
  have b := hd_par (n := n) (X := X) (Y := Y) i
  rw [aft_bef hi] at a
  apply k
  rw [← a, ← b, q]
/-- round and round -/
def rX (n : Nat) (C : Nat → Int × Int) (k : Nat) : Int := (C (k % n)).1
def rY (n : Nat) (C : Nat → Int × Int) (k : Nat) : Int := (C (k % n)).2
theorem md_s (hn : 0 < n) (k : Nat) : (k + 1) % n = gm_aft n (k % n) := by
  have h := Nat.mod_lt k hn
  unfold gm_aft
  rw [Nat.add_mod]
  by_cases e : k % n + 1 < n
  · rw [if_pos e, Nat.mod_eq_of_lt (a := 1) (by omega), Nat.mod_eq_of_lt e]
  · rw [if_neg e]
    have e2 : k % n + 1 = n := by omega
    by_cases e3 : n = 1
    · subst e3; exact Nat.mod_one _
    · rw [Nat.mod_eq_of_lt (a := 1) (by omega), e2, Nat.mod_self]
theorem rt_perX (C : Nat → Int × Int) : rt_per n (rX n C) (rY n C) := fun k => by
  unfold rX rY
  rw [Nat.add_mod_right]; exact ⟨rfl, rfl⟩
theorem rt_altX (hn : 0 < n) (hs : rcI n (cI X Y)) (hr : gm_right n X Y) : rt_alt (rX n (cI X Y)) (rY n (cI X Y)) := by
  intro k
  unfold rX rY
  have hk := Nat.mod_lt k hn
  rw [show k + 2 = (k + 1) + 1 from rfl, md_s hn (k + 1), md_s hn k]
  generalize k % n = i at hk ⊢
  have a := hs i hk
  have b := hs _ (aft_lt hk)
  have c := hr.2.1 i hk
  have a1 : ((cI X Y i).1 = (cI X Y (gm_aft n i)).1) = (X i = X (gm_aft n i)) := propext ti_e
  have b1 : ((cI X Y (gm_aft n i)).1 = (cI X Y (gm_aft n (gm_aft n i))).1) = (X (gm_aft n i) = X (gm_aft n (gm_aft n i))) := propext ti_e
  rw [← a1, ← b1] at c
  omega
theorem mn_le {x y : Int32} : (gm_min x y).toInt = min x.toInt y.toInt := by
  unfold gm_min
  split
  · next e => rw [Int32.le_iff_toInt_le] at e; omega
  · next e => rw [Int32.le_iff_toInt_le] at e; omega
theorem mx_le {x y : Int32} : (gm_max x y).toInt = max x.toInt y.toInt := by
  unfold gm_max
  split
  · next e => rw [Int32.le_iff_toInt_le] at e; omega
  · next e => rw [Int32.le_iff_toInt_le] at e; omega
theorem rt_freeX (hn : 4 ≤ n) (hr : gm_right n X Y) : rt_free n (rX n (cI X Y)) (rY n (cI X Y)) := by
  intro i s a b h1 h2 p q
  have key : ∀ i j, i + 2 ≤ j → j < n → gm_aft n j ≠ i → ∀ a b : Int, ((min (X i).toInt (X (gm_aft n i)).toInt ≤ a ∧ a ≤ max (X i).toInt (X (gm_aft n i)).toInt) ∧ min (Y i).toInt (Y (gm_aft n i)).toInt ≤ b ∧ b ≤ max (Y i).toInt (Y (gm_aft n i)).toInt) → ((min (X j).toInt (X (gm_aft n j)).toInt ≤ a ∧ a ≤ max (X j).toInt (X (gm_aft n j)).toInt) ∧ min (Y j).toInt (Y (gm_aft n j)).toInt ≤ b ∧ b ≤ max (Y j).toInt (Y (gm_aft n j)).toInt) → False := by
    intro i j q1 q2 q3 a b p q
    refine hr.2.2 i j q1 q2 q3 ?_
    unfold gm_touch
    rw [Int32.le_iff_toInt_le, Int32.le_iff_toInt_le, Int32.le_iff_toInt_le, Int32.le_iff_toInt_le]
    simp only [mn_le, mx_le]
    omega
  unfold rt_on rX rY at p q
  have hi := Nat.mod_lt i (show 0 < n by omega)
  rw [md_s (by omega) i] at p
  rw [md_s (by omega) (i + s)] at q
  have e : (i + s) % n = if i % n + s < n then i % n + s else i % n + s - n := by
    rw [Nat.add_mod, Nat.mod_eq_of_lt (a := s) (by omega)]
    split
    · next e => exact Nat.mod_eq_of_lt e
    · next e => rw [Nat.mod_eq_sub_mod (by omega), Nat.mod_eq_of_lt (by omega)]
  rw [e] at q
  generalize i % n = k at hi p q
  split at q
  · next e1 =>
    refine key k (k + s) (by omega) e1 ?_ a b p q
    unfold gm_aft
    split <;> omega
  · next e1 =>
    refine key (k + s - n) k (by omega) hi ?_ a b q p
    unfold gm_aft
    split <;> omega
theorem arI_rX (hn : 0 < n) (C : Nat → Int × Int) : arI n (rX n C) (rY n C) = arP n C := by
  unfold arI arP
  refine smI_congr n (fun k hk => ?_)
  unfold rX rY
  rw [md_s hn k, Nat.mod_eq_of_lt hk]
/-- a right polygon's area is not too large -/
theorem smI_bd {f : Nat → Int} {B : Int} : ∀ n, (∀ k, k < n → -B ≤ f k ∧ f k ≤ B) → -(n * B) ≤ smI f n ∧ smI f n ≤ n * B
  | 0, _ => by rw [show ((0 : Nat) : Int) = 0 from rfl, Int.zero_mul]; exact ⟨Int.le_refl _, Int.le_refl _⟩
  | n + 1, h => by
    have a := smI_bd n (fun k hk => h k (by omega))
    have b := h n (by omega)
    have c : ((n + 1 : Nat) : Int) * B = n * B + B := by rw [show ((n + 1 : Nat) : Int) = (n : Int) + 1 from rfl, Int.add_mul, Int.one_mul]
    rw [c]
    show -(_ : Int) ≤ smI f n + f n ∧ smI f n + f n ≤ _
    omega
theorem arI_bd {x y : Nat → Int} (hn : 4 ≤ n) (hp : rt_per n x y) (ha : rt_alt x y) (hf : rt_free n x y) (B : Nat) (hx : ∀ k, -(B : Int) < x k ∧ x k < B) (hy : ∀ k, -(B : Int) < y k ∧ y k < B) : -(2 * B * (2 * B) : Int) ≤ arI n x y ∧ arI n x y ≤ 2 * B * (2 * B) := by
  rw [← arI_wd hp ha B (fun k => by have := hx k; omega) (fun k => by have := hy k; omega)]
  obtain ⟨hK, _⟩ := wd_K hn hp ha hf
  have all : ∀ (c : Int) (r : Nat), -1 ≤ wd n x y c ((r : Int) - B) ∧ wd n x y c ((r : Int) - B) ≤ 1 := by
    intro c r
    have := wd_all hn hp ha hf (m := -(B : Int)) (fun j => by have := hy j; omega) c r
    rw [show -(B : Int) + r = (r : Int) - B by omega] at this
    omega
  have a := smI_bd (B := ((2 * B : Nat) : Int) * 1) (2 * B) (f := fun c : Nat => smI (fun r : Nat => wd n x y ((c : Int) - B) ((r : Int) - B)) (2 * B)) (fun c _ => smI_bd (B := 1) (2 * B) (fun r _ => all _ r))
  rw [Int.mul_one, show ((2 * B : Nat) : Int) = 2 * (B : Int) by omega] at a
  exact a
theorem rt_area (hco : ∀ i, i < n → ab_co (X i) ∧ ab_co (Y i)) (hs : ∀ i, i + 1 < n → ¬ (X (i + 1) = X i ↔ Y (i + 1) = Y i)) (hr : gm_right n X Y) : arP n (cI X Y) ≠ 0 ∧ -500000000 ≤ arP n (cI X Y) ∧ arP n (cI X Y) ≤ 500000000 := by
  have hn : 4 ≤ n := hr.1.1
  have h0 : 0 < n := by omega
  have hb : ∀ k, (-((10001 : Nat) : Int) < rX n (cI X Y) k ∧ rX n (cI X Y) k < ((10001 : Nat) : Int)) ∧ (-((10001 : Nat) : Int) < rY n (cI X Y) k ∧ rY n (cI X Y) k < ((10001 : Nat) : Int)) := fun k => by
    have q := hco (k % n) (Nat.mod_lt k h0)
    have q1 := co_b q.1
    have q2 := co_b q.2
    unfold rX rY
    show (-((10001 : Nat) : Int) < (X (k % n)).toInt ∧ (X (k % n)).toInt < ((10001 : Nat) : Int)) ∧ (-((10001 : Nat) : Int) < (Y (k % n)).toInt ∧ (Y (k % n)).toInt < ((10001 : Nat) : Int))
    omega
  have p := rt_perX (n := n) (cI X Y)
  have a := rt_altX h0 (rt_rc hs hr) hr
  have f := rt_freeX hn hr
  rw [← arI_rX h0]
  refine ⟨arI_ne hn p a f 10001 (fun k => (hb k).1) (fun k => (hb k).2), ?_⟩
  have := arI_bd hn p a f 10001 (fun k => (hb k).1) (fun k => (hb k).2)
  omega
/-- the class's sum -/
theorem gs_sm (hco : ∀ i, i < n → ab_co (X i) ∧ ab_co (Y i)) : ∀ k, k ≤ n → gm_sum n X Y k = jN (smI (fun k => (cI X Y k).1 * ((cI X Y (gm_aft n k)).2 - (cI X Y k).2)) k)
  | 0, _ => rfl
  | k + 1, hk => by
    have q1 := co_b (hco k (by omega)).1
    have q2 := co_b (hco k (by omega)).2
    have q3 := co_b (hco (gm_aft n k) (aft_lt (by omega))).2
    show gm_sum n X Y k + (X k).toInt64 * (Y (gm_aft n k) - Y k).toInt64 = jN (smI _ k + (X k).toInt * ((Y (gm_aft n k)).toInt - (Y k).toInt))
    rw [gs_sm hco k (by omega), jN_add, jN_mul, jN_i]
    congr 2
    rw [← iN_64 (by omega) (by omega), iN_sub, iN_of, iN_of]
theorem gl_lf (hco : ∀ i, i < n → ab_co (X i) ∧ ab_co (Y i)) (hb : -500000000 ≤ arP n (cI X Y) ∧ arP n (cI X Y) ≤ 500000000) : gm_left n X Y = lfI n (cI X Y) := by
  unfold gm_left lfI
  rw [gs_sm hco n (Nat.le_refl n)]
  have e : (0 < jN (arP n (cI X Y))) ↔ 0 < arP n (cI X Y) := jN_lt (a := 0) (by omega) (by omega) (by omega) (by omega)
  exact decide_eq_decide.mpr e
theorem ga_ar (hco : ∀ i, i < n → ab_co (X i) ∧ ab_co (Y i)) (hb : -500000000 ≤ arP n (cI X Y) ∧ arP n (cI X Y) ≤ 500000000) : (gm_area n X Y).toInt = (if lfI n (cI X Y) = true then arP n (cI X Y) else - arP n (cI X Y)) := by
  unfold gm_area
  rw [gl_lf hco hb, gs_sm hco n (Nat.le_refl n)]
  have e : ∀ a : Int, -500000000 ≤ a ∧ a ≤ 500000000 → (jN a).toInt32.toInt = a := fun a ha => by
    rw [← iN_64 (by omega) (by omega), Int32.toInt32_toInt64, iN_to (by omega) (by omega)]
  by_cases c : lfI n (cI X Y) = true
  · rw [if_pos c, if_pos c]
    exact e _ hb
  · rw [if_neg c, if_neg c, ← jN_neg]
    exact e _ (by
      show -500000000 ≤ - arP n (cI X Y) ∧ - arP n (cI X Y) ≤ 500000000
      omega)
theorem gh_hd (i : Nat) : gm_head n X Y i = nI (hdI n (cI X Y) i) := by
  unfold gm_head hdI
  have a1 : ((cI X Y i).1 = (cI X Y (gm_aft n i)).1) = (X i = X (gm_aft n i)) := propext ti_e
  have a2 : ((cI X Y i).2 < (cI X Y (gm_aft n i)).2) = (Y i < Y (gm_aft n i)) := propext Int32.lt_iff_toInt_lt.symm
  have a3 : ((cI X Y i).1 < (cI X Y (gm_aft n i)).1) = (X i < X (gm_aft n i)) := propext Int32.lt_iff_toInt_lt.symm
  simp only [a1, a2, a3]
  by_cases e : X i = X (gm_aft n i)
  · rw [if_pos e, if_pos e]; split <;> rfl
  · rw [if_neg e, if_neg e]; split <;> rfl
theorem hf_fin : ∀ a, a < 4 → ∀ l : Bool, (nI a + (if l = true then 3 else 1 : Int32)) &&& 3 = nI ((a + (if l = true then 3 else 1)) % 4) := by
  intro a ha l
  rcases sv_q4 ha with rfl | rfl | rfl | rfl <;> cases l <;> decide
theorem gf_fc (hl : gm_left n X Y = lfI n (cI X Y)) (i : Nat) : gm_face n X Y i = nI (fcI n (cI X Y) i) := by
  unfold gm_face fcI
  rw [gh_hd, hl]
  exact hf_fin _ (hdI_4 _ _ _) _
theorem ho_fin : ∀ a, a < 4 → ∀ c, c < 4 → ((nI c - nI a) &&& 3 = 1 ↔ (c + 4 - a) % 4 = 1) := by decide
theorem go_oc (hl : gm_left n X Y = lfI n (cI X Y)) (i : Nat) : gm_outer n X Y i = oN (ocI n (cI X Y) i) := by
  unfold gm_outer ocI
  have e : decide ((gm_head n X Y i - gm_head n X Y (gm_bef n i)) &&& 3 = 1) = decide ((hdI n (cI X Y) i + 4 - hdI n (cI X Y) (gm_bef n i)) % 4 = 1) := by
    rw [gh_hd, gh_hd]
    exact decide_eq_decide.mpr (ho_fin _ (hdI_4 _ _ _) _ (hdI_4 _ _ _))
  rw [e, hl]
  by_cases c : decide ((hdI n (cI X Y) i + 4 - hdI n (cI X Y) (gm_bef n i)) % 4 = 1) = lfI n (cI X Y)
  · rw [if_pos c, if_pos c]
    by_cases c2 : lfI n (cI X Y) = true
    · rw [if_pos c2, if_pos c2]; exact gf_fc hl _
    · rw [if_neg c2, if_neg c2]; exact gf_fc hl _
  · rw [if_neg c, if_neg c]; rfl
end RIGHT
