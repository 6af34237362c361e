section NEAR
variable {mp : Nat → mvT} {sz : Nat → Nat} {X Y : Nat → Nat → Int} {fc : Nat → Nat → Nat} {oc : Nat → Nat → Option Nat} {q r : List Nat × Nat}
theorem mnF_le {f : Nat → Int} : ∀ k i, i ≤ k → mnF f k ≤ f i
  | 0, i, h => by rw [Nat.le_zero.mp h]; exact Int.le_refl _
  | k + 1, i, h => by
    show min (mnF f k) (f (k + 1)) ≤ f i
    by_cases e : i = k + 1
    · rw [e]; omega
    · have := mnF_le (f := f) k i (by omega); omega
theorem mxF_ge {f : Nat → Int} : ∀ k i, i ≤ k → f i ≤ mxF f k
  | 0, i, h => by rw [Nat.le_zero.mp h]; exact Int.le_refl _
  | k + 1, i, h => by
    show f i ≤ max (mxF f k) (f (k + 1))
    by_cases e : i = k + 1
    · rw [e]; omega
    · have := mxF_ge (f := f) k i (by omega); omega
theorem bx_in {i : Nat} (h : i < sz q.2) : (bxO mp sz X Y q 0 ≤ (cor mp X Y q i).1 ∧ (cor mp X Y q i).1 ≤ bxO mp sz X Y q 2) ∧ (bxO mp sz X Y q 1 ≤ (cor mp X Y q i).2 ∧ (cor mp X Y q i).2 ≤ bxO mp sz X Y q 3) := by
  unfold bxO bxk
  exact ⟨⟨mnF_le (f := fun i => (cor mp X Y q i).1) _ i (by omega), mxF_ge (f := fun i => (cor mp X Y q i).1) _ i (by omega)⟩, ⟨mnF_le (f := fun i => (cor mp X Y q i).2) _ i (by omega), mxF_ge (f := fun i => (cor mp X Y q i).2) _ i (by omega)⟩⟩
/-- an item lies in the box -/
def inB (mp : Nat → mvT) (sz : Nat → Nat) (X Y : Nat → Nat → Int) (q : List Nat × Nat) (up : Bool) (s : iT) : Prop := s.2.1 ≤ s.2.2 ∧ if up = true then (bxO mp sz X Y q 0 ≤ s.1 ∧ s.1 ≤ bxO mp sz X Y q 2) ∧ (bxO mp sz X Y q 1 ≤ s.2.1 ∧ s.2.2 ≤ bxO mp sz X Y q 3) else (bxO mp sz X Y q 1 ≤ s.1 ∧ s.1 ≤ bxO mp sz X Y q 3) ∧ (bxO mp sz X Y q 0 ≤ s.2.1 ∧ s.2.2 ≤ bxO mp sz X Y q 2)
theorem sd_in {f : Nat} {s : iT} (h : s ∈ sideL mp sz X Y fc q f) : inB mp sz X Y q (upr f) s := by
  unfold sideL slP at h
  obtain ⟨i, hi, rfl⟩ := List.mem_map.mp h
  have hi := List.mem_range.mp (List.mem_filter.mp hi).1
  have a := bx_in (mp := mp) (sz := sz) (X := X) (Y := Y) (q := q) hi
  have b := bx_in (mp := mp) (sz := sz) (X := X) (Y := Y) (q := q) (aft_lt hi)
  unfold sideT inB upr
  by_cases e : f = 0 ∨ f = 2
  · rw [if_pos e, if_pos (decide_eq_true e)]
    dsimp only
    omega
  · rw [if_neg e, if_neg (fun z => e (of_decide_eq_true z))]
    dsimp only
    omega
theorem sd_b {f : Nat} {s : iT} (hc : cbd (cor mp X Y q) (sz q.2)) (h : s ∈ sideL mp sz X Y fc q f) : ib s := by
  unfold sideL slP at h
  obtain ⟨i, hi, rfl⟩ := List.mem_map.mp h
  have hi := List.mem_range.mp (List.mem_filter.mp hi).1
  have a := hc i hi
  have b := hc _ (aft_lt hi)
  unfold sideT ib
  by_cases e : f = 0 ∨ f = 2
  · rw [if_pos e]
    dsimp only
    omega
  · rw [if_neg e]
    dsimp only
    omega
theorem co_in {f : Nat} {s : iT} (h : s ∈ cornL mp sz X Y oc q f) : (bxO mp sz X Y q 0 ≤ s.1 ∧ s.1 ≤ bxO mp sz X Y q 2) ∧ (bxO mp sz X Y q 1 ≤ s.2.1 ∧ s.2.1 ≤ bxO mp sz X Y q 3) := by
  unfold cornL slP at h
  obtain ⟨i, hi, rfl⟩ := List.mem_map.mp h
  exact bx_in (List.mem_range.mp (List.mem_filter.mp hi).1)
theorem co_b2 {f : Nat} {s : iT} (hc : cbd (cor mp X Y q) (sz q.2)) (h : s ∈ cornL mp sz X Y oc q f) : (-200000 ≤ s.1 ∧ s.1 ≤ 200000) ∧ (-200000 ≤ s.2.1 ∧ s.2.1 ≤ 200000) := by
  unfold cornL slP at h
  obtain ⟨i, hi, rfl⟩ := List.mem_map.mp h
  exact hc i (List.mem_range.mp (List.mem_filter.mp hi).1)
theorem gp_c (a : Nat) : gp_ mp sz X Y q r a = gp_ mp sz X Y r q a := by unfold gp_; omega
/-- far apart: no rows -/
theorem ac_far {f g : Nat} (hfg : upr f = upr g) {near lim lr : Int} (h1 : 1 ≤ near) (h2 : 1 ≤ lr) {en : Int32} {a c hm : Int} (hn : ¬ (gp_ mp sz X Y q r 0 < lim ∧ gp_ mp sz X Y q r 1 < lim)) : acL (upr f) near lim lr en a c hm (sideL mp sz X Y fc q f) (sideL mp sz X Y fc r g) = [] := by
  unfold acL
  refine fM_z _ (fun s hs => fM_z _ (fun t ht => ?_))
  have a1 := sd_in hs
  have a2 := sd_in ht
  rw [← hfg] at a2
  unfold acR
  refine if_neg (fun z => hn ?_)
  unfold gp_
  unfold inB at a1 a2
  cases hu : upr f
  · rw [hu] at a1 a2
    simp only [Bool.false_eq_true, if_false] at a1 a2
    simp only [show 0 + 2 = 2 from rfl, show 1 + 2 = 3 from rfl]
    omega
  · rw [hu] at a1 a2
    simp only [if_true] at a1 a2
    simp only [show 0 + 2 = 2 from rfl, show 1 + 2 = 3 from rfl]
    omega
theorem sq_lt {a b l : Int} (ha : 0 < a) (hl : 0 ≤ l) (h : a * a + b * b < l * l) : a < l := by
  refine Int.not_le.mp (fun e => ?_)
  have q1 : l * l ≤ a * a := Int.mul_le_mul e e hl (by omega)
  have q2 : 0 ≤ b * b := by
    rcases Int.le_total 0 b with p | p
    · exact Int.mul_nonneg p p
    · exact Int.mul_nonneg_of_nonpos_of_nonpos p p
  omega
theorem co_far {f g : Nat} {up : Bool} {lim : Int} (hl : 0 ≤ lim) {a c hm : Int} (hn : ¬ (gp_ mp sz X Y q r 0 < lim ∧ gp_ mp sz X Y q r 1 < lim)) : coL up lim a c hm (cornL mp sz X Y oc q f) (cornL mp sz X Y oc r g) = [] := by
  unfold coL
  refine fM_z _ (fun s hs => fM_z _ (fun t ht => ?_))
  have a1 := co_in hs
  have a2 := co_in ht
  unfold coR
  refine if_neg (fun z => hn ?_)
  obtain ⟨z1, z2, z3⟩ := z
  have d1 := sq_lt z1 hl z3
  have d2 := sq_lt z2 hl (by rw [Int.add_comm]; exact z3)
  unfold gp_
  simp only [show 0 + 2 = 2 from rfl, show 1 + 2 = 3 from rfl]
  cases up
  · simp only [Bool.false_eq_true, if_false] at z2 d2
    omega
  · simp only [if_true] at z2 d2
    omega
/-- a polygon has a width and a height -/
theorem bx_w (H : qok mp sz X Y fc oc q) : bxO mp sz X Y q 0 < bxO mp sz X Y q 2 ∧ bxO mp sz X Y q 1 < bxO mp sz X Y q 3 := by
  obtain ⟨h0, h1, h2, h3, h4, h5, h6⟩ := H
  have R := rc_mv (M := mvW mp q.1) (mvW_q mp q.1) h1
  have k0 := R 0 (by omega)
  have k1 := R 1 (by omega)
  have e0 : gm_aft (sz q.2) 0 = 1 := if_pos (by omega)
  have e1 : gm_aft (sz q.2) 1 = 2 := if_pos (by omega)
  rw [e0] at k0
  rw [e1] at k1
  have b0 := bx_in (mp := mp) (sz := sz) (X := X) (Y := Y) (q := q) (i := 0) (by omega)
  have b1 := bx_in (mp := mp) (sz := sz) (X := X) (Y := Y) (q := q) (i := 1) (by omega)
  have b2 := bx_in (mp := mp) (sz := sz) (X := X) (Y := Y) (q := q) (i := 2) (by omega)
  have al := h2 1 (by omega)
  have eb : gm_bef (sz q.2) 1 = 0 := rfl
  rw [eb] at al
  have p0 := hd_mv (n := sz q.2) (C := fun k => (X q.2 k, Y q.2 k)) (M := mvW mp q.1) (mvW_q mp q.1) (i := 0) (h1 0 (by omega))
  have p1 := hd_mv (n := sz q.2) (C := fun k => (X q.2 k, Y q.2 k)) (M := mvW mp q.1) (mvW_q mp q.1) (i := 1) (h1 1 (by omega))
  have al2 : ¬ hdI (sz q.2) (cor mp X Y q) 0 % 2 = hdI (sz q.2) (cor mp X Y q) 1 % 2 := by
    intro z
    have z1 : hdI (sz q.2) (cor mp X Y q) 0 = _ := p0
    have z2 : hdI (sz q.2) (cor mp X Y q) 1 = _ := p1
    rw [z1, z2] at z
    have g0 := hdI_4 (sz q.2) (fun k => (X q.2 k, Y q.2 k)) 0
    have g1 := hdI_4 (sz q.2) (fun k => (X q.2 k, Y q.2 k)) 1
    cases hm : (mvW mp q.1).1 <;> rw [hm] at z <;> simp at z <;> omega
  have q0 : (cor mp X Y q 0).1 = (cor mp X Y q 1).1 ∧ (cor mp X Y q 0).2 ≠ (cor mp X Y q 1).2 ∨ (cor mp X Y q 0).2 = (cor mp X Y q 1).2 ∧ (cor mp X Y q 0).1 ≠ (cor mp X Y q 1).1 := k0
  have q1 : (cor mp X Y q 1).1 = (cor mp X Y q 2).1 ∧ (cor mp X Y q 1).2 ≠ (cor mp X Y q 2).2 ∨ (cor mp X Y q 1).2 = (cor mp X Y q 2).2 ∧ (cor mp X Y q 1).1 ≠ (cor mp X Y q 2).1 := k1
  unfold hdI at al2
  rw [e0, e1] at al2
  rcases q0 with ⟨u1, u2⟩ | ⟨u1, u2⟩ <;> rcases q1 with ⟨v1, v2⟩ | ⟨v1, v2⟩
  · rw [if_pos u1, if_pos v1] at al2
    exfalso; apply al2; split <;> split <;> rfl
  · omega
  · omega
  · rw [if_neg u2, if_neg v2] at al2
    exfalso; apply al2; split <;> split <;> rfl
theorem bxV_g (hq : qok mp sz X Y fc oc q) (hr : qok mp sz X Y fc oc r) : bxV (cor mp X Y q) (cor mp X Y r) (sz q.2) (sz r.2) ↔ (gp_ mp sz X Y q r 0 < 0 ∧ gp_ mp sz X Y q r 1 < 0) := by
  have a := bx_w hq
  have b := bx_w hr
  unfold bxV gp_
  unfold bxO at a b ⊢
  simp only [show 0 + 2 = 2 from rfl, show 1 + 2 = 3 from rfl]
  omega
/-- voltages -/
theorem tn_e {x5 u w : Int32} (h5 : x5 = -1 ∨ 0 ≤ x5) (hu : -1000000 ≤ u.toInt ∧ u.toInt ≤ 1000000) (hw : -1000000 ≤ w.toInt ∧ w.toInt ≤ 1000000) : tnM x5 u w ↔ (x5 = -1 ∨ ¬ (if 0 ≤ (u - w) then (u - w) else 0 - (u - w)) < x5) := by
  have e1 : (u - w).toInt = u.toInt - w.toInt := by
    rw [← iN_of u, ← iN_of w, ← iN_sub, iN_of, iN_of, iN_to (by omega) (by omega)]
  have e2 : (0 - (u - w)).toInt = -(u.toInt - w.toInt) := by
    rw [← iN_of u, ← iN_of w, ← iN_sub, iN_of, iN_of, show (0 : Int32) = iN 0 from rfl, ← iN_sub, iN_to (by omega) (by omega)]; omega
  unfold tnM
  rcases h5 with rfl | h5
  · exact ⟨fun _ => Or.inl rfl, fun _ => Or.inl (by decide)⟩
  · rw [Int32.le_iff_toInt_le] at h5
    have h5 : 0 ≤ x5.toInt := h5
    have n1 : ¬ x5 = -1 := fun e => by rw [e] at h5; exact absurd h5 (by decide)
    by_cases c : (0 : Int32) ≤ u - w
    · rw [if_pos c, Int32.lt_iff_toInt_lt, e1]
      rw [Int32.le_iff_toInt_le, e1] at c
      have c : 0 ≤ u.toInt - w.toInt := c
      rw [if_neg (by omega)]
      constructor
      · intro z; exact Or.inr (by omega)
      · intro z; exact Or.inr (by rcases z with z | z; exact absurd z n1; omega)
    · rw [if_neg c, Int32.lt_iff_toInt_lt, e2]
      rw [Int32.le_iff_toInt_le, e1] at c
      have c : ¬ 0 ≤ u.toInt - w.toInt := c
      rw [if_pos (by omega)]
      constructor
      · intro z; exact Or.inr (by omega)
      · intro z; exact Or.inr (by rcases z with z | z; exact absurd z n1; omega)
theorem tn_c {x5 u w : Int32} : tnM x5 u w ↔ tnM x5 w u := by
  unfold tnM
  by_cases e : u.toInt - w.toInt < 0
  · rw [if_pos e]
    by_cases e2 : w.toInt - u.toInt < 0
    · rw [if_pos e2]; omega
    · rw [if_neg e2]; omega
  · rw [if_neg e]
    by_cases e2 : w.toInt - u.toInt < 0
    · rw [if_pos e2]; omega
    · rw [if_neg e2]; omega
theorem bxV_c {C D : Nat → Int × Int} {n m : Nat} : bxV C D n m ↔ bxV D C m n := by unfold bxV; omega
/-- spaces, corners, overlaps: both ways alike -/
theorem bK_c (kd : Nat) (h9 : kd = 7 ∨ kd = 8 ∨ kd = 10) (x3 x4 x5 x6 : Int32) (hmI : Int) (vo : Nat → Int32) : (bK kd x3 x4 x5 x6 hmI vo mp sz X Y fc oc q r).Perm (bK kd x3 x4 x5 x6 hmI vo mp sz X Y fc oc r q) := by
  unfold bK
  have e : (tnM x5 (vo q.2) (vo r.2) ∧ (¬ (kd = 9 ∨ kd = 10) ∨ bxV (cor mp X Y q) (cor mp X Y r) (sz q.2) (sz r.2))) ↔ (tnM x5 (vo r.2) (vo q.2) ∧ (¬ (kd = 9 ∨ kd = 10) ∨ bxV (cor mp X Y r) (cor mp X Y q) (sz r.2) (sz q.2))) := by rw [tn_c, bxV_c]
  by_cases c : tnM x5 (vo q.2) (vo r.2) ∧ (¬ (kd = 9 ∨ kd = 10) ∨ bxV (cor mp X Y q) (cor mp X Y r) (sz q.2) (sz r.2))
  · rw [if_pos c, if_pos (e.mp c)]
    rcases h9 with rfl | rfl | rfl
    · rw [if_neg (by decide), if_pos rfl, if_neg (by decide), if_pos rfl]
      exact List.perm_append_comm
    · rw [if_pos rfl, if_pos rfl]
      exact List.perm_append_comm
    · rw [if_neg (by decide), if_neg (by decide), if_pos rfl, if_neg (by decide), if_neg (by decide), if_pos rfl]
      exact List.perm_append_comm
  · rw [if_neg c, if_neg (fun z => c (e.mpr z))]
/-- whose items a rule looks at -/
def kT (kd : Nat) (mp : Nat → mvT) (sz : Nat → Nat) (X Y : Nat → Nat → Int) (fc : Nat → Nat → Nat) (oc : Nat → Nat → Option Nat) : List Nat × Nat → Nat → List (Int × Int × Int) := if kd = 8 then cornL mp sz X Y oc else sideL mp sz X Y fc
theorem lrn_1 (x4 : Int32) : 1 ≤ (lrn x4).toInt := by
  unfold lrn
  split
  · decide
  · next e => rw [Int32.lt_iff_toInt_lt] at e; have e : ¬ x4.toInt < 1 := e; omega
/-- the class's pair out of bK -/
theorem jPr_e (kd : Nat) (hkd : kd = 7 ∨ kd = 8 ∨ kd = 9 ∨ kd = 10) (l1 l2 x3 x4 x5 x6 : Int32) (h3 : 0 ≤ x3.toInt) (h5 : x5 = -1 ∨ 0 ≤ x5) (h59 : kd = 9 ∨ kd = 10 → x5 = -1) (hmI : Int) (ly vo : Nat → Int32) (hq : qok mp sz X Y fc oc q) (hr : qok mp sz X Y fc oc r) (vq : -1000000 ≤ (vo q.2).toInt ∧ (vo q.2).toInt ≤ 1000000) (vr : -1000000 ≤ (vo r.2).toInt ∧ (vo r.2).toInt ≤ 1000000) : ((if ly q.2 = l1 ∧ ly r.2 = l2 then bK kd x3 x4 x5 x6 hmI vo mp sz X Y fc oc q r else []) ++ (if ly r.2 = l1 ∧ ly q.2 = l2 ∧ (kd = 9 ∨ l1 ≠ l2) then bK kd x3 x4 x5 x6 hmI vo mp sz X Y fc oc r q else [])).Perm (jPr kd l1 l2 x3 x4 x5 x6 hmI ly vo mp sz X Y (kT kd mp sz X Y fc oc) [q, r] 0 1) := by
  have lr1 := lrn_1 x4
  have sym : (kd = 7 ∨ kd = 8 ∨ kd = 10) → jPr kd l1 l2 x3 x4 x5 x6 hmI ly vo mp sz X Y (kT kd mp sz X Y fc oc) [q, r] 0 1 = (if (ly q.2 = l1 ∧ ly r.2 = l2) ∨ (ly q.2 = l2 ∧ ly r.2 = l1) then bK kd x3 x4 x5 x6 hmI vo mp sz X Y fc oc q r else []) := by
    intro hs
    have tn := tn_e (x5 := x5) h5 vq vr
    unfold jPr bK kT
    show (if kd = 7 then (if (((ly q.2 = l1 ∧ ly r.2 = l2) ∨ (ly q.2 = l2 ∧ ly r.2 = l1)) ∧ (gp_ mp sz X Y q r 0 < x3.toInt ∧ gp_ mp sz X Y q r 1 < x3.toInt) ∧ (x5 = -1 ∨ ¬ (if 0 ≤ (vo q.2 - vo r.2) then (vo q.2 - vo r.2) else 0 - (vo q.2 - vo r.2)) < x5)) then _ else [])
      else if kd = 8 then (if (((ly q.2 = l1 ∧ ly r.2 = l2) ∨ (ly q.2 = l2 ∧ ly r.2 = l1)) ∧ (gp_ mp sz X Y q r 0 < x3.toInt ∧ gp_ mp sz X Y q r 1 < x3.toInt) ∧ (x5 = -1 ∨ ¬ (if 0 ≤ (vo q.2 - vo r.2) then (vo q.2 - vo r.2) else 0 - (vo q.2 - vo r.2)) < x5)) then _ else [])
      else if kd = 9 then _ else (if (gp_ mp sz X Y q r 0 < 0 ∧ gp_ mp sz X Y q r 1 < 0) ∧ ((ly q.2 = l1 ∧ ly r.2 = l2) ∨ (ly q.2 = l2 ∧ ly r.2 = l1)) then _ else [])) = _
    rcases hs with rfl | rfl | rfl
    · simp only [if_true, if_neg (show ¬ (7 : Nat) = 8 by decide)]
      by_cases c1 : (ly q.2 = l1 ∧ ly r.2 = l2) ∨ (ly q.2 = l2 ∧ ly r.2 = l1)
      · rw [if_pos c1]
        by_cases c3 : tnM x5 (vo q.2) (vo r.2)
        · rw [if_pos (show tnM x5 (vo q.2) (vo r.2) ∧ (¬ (7 = 9 ∨ 7 = 10) ∨ bxV (cor mp X Y q) (cor mp X Y r) (sz q.2) (sz r.2)) from ⟨c3, Or.inl (by decide)⟩)]
          by_cases c2 : gp_ mp sz X Y q r 0 < x3.toInt ∧ gp_ mp sz X Y q r 1 < x3.toInt
          · rw [if_pos ⟨c1, c2, tn.mp c3⟩]
          · rw [if_neg (fun z => c2 z.2.1)]
            have c2' : ¬ (gp_ mp sz X Y r q 0 < x3.toInt ∧ gp_ mp sz X Y r q 1 < x3.toInt) := by rw [gp_c (q := r) (r := q) 0, gp_c (q := r) (r := q) 1]; exact c2
            unfold jSp acq
            show [] = (acL (upr 0) 1 _ _ _ _ _ _ (sideL mp sz X Y fc q 0) (sideL mp sz X Y fc r 2) ++ acL (upr 1) 1 _ _ _ _ _ _ (sideL mp sz X Y fc q 1) (sideL mp sz X Y fc r 3)) ++ (acL (upr 0) 1 _ _ _ _ _ _ (sideL mp sz X Y fc r 0) (sideL mp sz X Y fc q 2) ++ acL (upr 1) 1 _ _ _ _ _ _ (sideL mp sz X Y fc r 1) (sideL mp sz X Y fc q 3))
            rw [ac_far (q := q) (r := r) (by decide) (by decide) lr1 c2, ac_far (q := q) (r := r) (by decide) (by decide) lr1 c2, ac_far (q := r) (r := q) (by decide) (by decide) lr1 c2', ac_far (q := r) (r := q) (by decide) (by decide) lr1 c2']
            rfl
        · rw [if_neg (fun z => c3 (tn.mpr z.2.2)), if_neg (fun z => c3 z.1)]
      · rw [if_neg c1, if_neg (fun z => c1 z.1)]
    · simp only [if_true, if_neg (show ¬ (8 : Nat) = 7 by decide)]
      by_cases c1 : (ly q.2 = l1 ∧ ly r.2 = l2) ∨ (ly q.2 = l2 ∧ ly r.2 = l1)
      · rw [if_pos c1]
        by_cases c3 : tnM x5 (vo q.2) (vo r.2)
        · rw [if_pos (show tnM x5 (vo q.2) (vo r.2) ∧ (¬ (8 = 9 ∨ 8 = 10) ∨ bxV (cor mp X Y q) (cor mp X Y r) (sz q.2) (sz r.2)) from ⟨c3, Or.inl (by decide)⟩)]
          by_cases c2 : gp_ mp sz X Y q r 0 < x3.toInt ∧ gp_ mp sz X Y q r 1 < x3.toInt
          · rw [if_pos ⟨c1, c2, tn.mp c3⟩]; rfl
          · rw [if_neg (fun z => c2 z.2.1)]
            have c2' : ¬ (gp_ mp sz X Y r q 0 < x3.toInt ∧ gp_ mp sz X Y r q 1 < x3.toInt) := by rw [gp_c (q := r) (r := q) 0, gp_c (q := r) (r := q) 1]; exact c2
            unfold jCo
            rw [co_far (q := q) (r := r) h3 c2, co_far (q := q) (r := r) h3 c2, co_far (q := r) (r := q) h3 c2', co_far (q := r) (r := q) h3 c2']
            rfl
        · rw [if_neg (fun z => c3 (tn.mpr z.2.2)), if_neg (fun z => c3 z.1)]
      · rw [if_neg c1, if_neg (fun z => c1 z.1)]
    · simp only [if_true, if_neg (show ¬ (10 : Nat) = 7 by decide), if_neg (show ¬ (10 : Nat) = 8 by decide), if_neg (show ¬ (10 : Nat) = 9 by decide)]
      have bx := bxV_g hq hr
      have c3 : tnM x5 (vo q.2) (vo r.2) := Or.inl (by rw [h59 (Or.inr rfl)]; decide)
      by_cases c1 : (ly q.2 = l1 ∧ ly r.2 = l2) ∨ (ly q.2 = l2 ∧ ly r.2 = l1)
      · rw [if_pos c1]
        by_cases c2 : gp_ mp sz X Y q r 0 < 0 ∧ gp_ mp sz X Y q r 1 < 0
        · rw [if_pos ⟨c2, c1⟩, if_pos (show tnM x5 (vo q.2) (vo r.2) ∧ (¬ (10 = 9 ∨ True) ∨ bxV (cor mp X Y q) (cor mp X Y r) (sz q.2) (sz r.2)) from ⟨c3, Or.inr (bx.mpr c2)⟩)]
        · rw [if_neg (fun z => c2 z.1), if_neg (fun z => by
            rcases z.2 with z2 | z2
            · exact z2 (Or.inr trivial)
            · exact c2 (bx.mp z2))]
      · rw [if_neg c1, if_neg (fun z => c1 z.2)]
  by_cases k9 : kd = 9
  · subst k9
    have bx := bxV_g hq hr
    have bx' := bxV_g hr hq
    have c3 : tnM x5 (vo q.2) (vo r.2) := Or.inl (by rw [h59 (Or.inl rfl)]; decide)
    have c3' : tnM x5 (vo r.2) (vo q.2) := Or.inl (by rw [h59 (Or.inl rfl)]; decide)
    have e9 : (if ly r.2 = l1 ∧ ly q.2 = l2 ∧ (9 = 9 ∨ l1 ≠ l2) then bK 9 x3 x4 x5 x6 hmI vo mp sz X Y fc oc r q else []) = (if ly r.2 = l1 ∧ ly q.2 = l2 then bK 9 x3 x4 x5 x6 hmI vo mp sz X Y fc oc r q else []) := by
      by_cases c : ly r.2 = l1 ∧ ly q.2 = l2
      · rw [if_pos c, if_pos ⟨c.1, c.2, Or.inl rfl⟩]
      · rw [if_neg c, if_neg (fun z => c ⟨z.1, z.2.1⟩)]
    refine List.Perm.of_eq ?_
    rw [e9]
    unfold jPr bK kT
    show _ = (if (gp_ mp sz X Y q r 0 < 0 ∧ gp_ mp sz X Y q r 1 < 0) then jEn 9 x3 x4 x6 hmI (sideL mp sz X Y fc) [q, r] ly l1 l2 0 1 ++ jEn 9 x3 x4 x6 hmI (sideL mp sz X Y fc) [q, r] ly l1 l2 1 0 else [])
    by_cases c2 : gp_ mp sz X Y q r 0 < 0 ∧ gp_ mp sz X Y q r 1 < 0
    · have c2' : gp_ mp sz X Y r q 0 < 0 ∧ gp_ mp sz X Y r q 1 < 0 := by rw [gp_c (q := r) (r := q) 0, gp_c (q := r) (r := q) 1]; exact c2
      rw [if_pos c2, if_pos (show tnM x5 (vo q.2) (vo r.2) ∧ (¬ (9 = 9 ∨ 9 = 10) ∨ bxV (cor mp X Y q) (cor mp X Y r) (sz q.2) (sz r.2)) from ⟨c3, Or.inr (bx.mpr c2)⟩), if_pos (show tnM x5 (vo r.2) (vo q.2) ∧ (¬ (9 = 9 ∨ 9 = 10) ∨ bxV (cor mp X Y r) (cor mp X Y q) (sz r.2) (sz q.2)) from ⟨c3', Or.inr (bx'.mpr c2')⟩)]
      rfl
    · have c2' : ¬ (gp_ mp sz X Y r q 0 < 0 ∧ gp_ mp sz X Y r q 1 < 0) := by rw [gp_c (q := r) (r := q) 0, gp_c (q := r) (r := q) 1]; exact c2
      have z1 : ¬ (tnM x5 (vo q.2) (vo r.2) ∧ (¬ (9 = 9 ∨ 9 = 10) ∨ bxV (cor mp X Y q) (cor mp X Y r) (sz q.2) (sz r.2))) := fun z => by
        rcases z.2 with z2 | z2
        · exact z2 (Or.inl rfl)
        · exact c2 (bx.mp z2)
      have z2 : ¬ (tnM x5 (vo r.2) (vo q.2) ∧ (¬ (9 = 9 ∨ 9 = 10) ∨ bxV (cor mp X Y r) (cor mp X Y q) (sz r.2) (sz q.2))) := fun z => by
        rcases z.2 with z2 | z2
        · exact z2 (Or.inl rfl)
        · exact c2' (bx'.mp z2)
      rw [if_neg c2, if_neg z1, if_neg z2]
      split <;> split <;> rfl
  · have hs : kd = 7 ∨ kd = 8 ∨ kd = 10 := by omega
    rw [sym hs]
    by_cases c1 : ly q.2 = l1 ∧ ly r.2 = l2
    · rw [if_pos c1, if_pos (Or.inl c1), if_neg (fun z => by
        rcases z.2.2 with z2 | z2
        · exact k9 z2
        · exact z2 (c1.1.symm.trans z.2.1)), List.append_nil]
    · rw [if_neg c1, List.nil_append]
      by_cases c2 : ly r.2 = l1 ∧ ly q.2 = l2
      · have c3 : l1 ≠ l2 := fun e => c1 ⟨c2.2.trans e.symm, c2.1.trans e⟩
        rw [if_pos ⟨c2.1, c2.2, Or.inr c3⟩, if_pos (Or.inr ⟨c2.2, c2.1⟩)]
        exact bK_c kd hs x3 x4 x5 x6 hmI vo
      · rw [if_neg (fun z => c2 ⟨z.1, z.2.1⟩), if_neg (fun z => by
          rcases z with z | z
          · exact c1 z
          · exact c2 ⟨z.2, z.1⟩)]
end NEAR
