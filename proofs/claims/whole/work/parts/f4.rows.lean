section ROWS
variable {mp : Nat → mvT} {sz : Nat → Nat} {X Y : Nat → Nat → Int} {fc : Nat → Nat → Nat} {oc : Nat → Nat → Option Nat} {q r : List Nat × Nat}
/-- an occurrence of a right polygon -/
def qok (mp : Nat → mvT) (sz : Nat → Nat) (X Y : Nat → Nat → Int) (fc : Nat → Nat → Nat) (oc : Nat → Nat → Option Nat) (q : List Nat × Nat) : Prop := 4 ≤ sz q.2 ∧ rcI (sz q.2) (fun k => (X q.2 k, Y q.2 k)) ∧ alI (sz q.2) (fun k => (X q.2 k, Y q.2 k)) ∧ arP (sz q.2) (fun k => (X q.2 k, Y q.2 k)) ≠ 0 ∧ (∀ i, i < sz q.2 → fc q.2 i = fcI (sz q.2) (fun k => (X q.2 k, Y q.2 k)) i) ∧ (∀ i, i < sz q.2 → oc q.2 i = ocI (sz q.2) (fun k => (X q.2 k, Y q.2 k)) i) ∧ cbd (cor mp X Y q) (sz q.2)
theorem sl_cg {P P' : Nat → Bool} {it it' : Nat → Int × Int × Int} {m : Nat} (h : ∀ i, i < m → P i = P' i) (h2 : ∀ i, i < m → P' i = true → it i = it' i) : slP P it m = slP P' it' m := by
  unfold slP
  have e : (List.range m).filter P = (List.range m).filter P' := List.filter_congr (fun i hi => h i (List.mem_range.mp hi))
  rw [e]
  exact List.map_congr_left (fun i hi => h2 i (List.mem_range.mp (List.mem_filter.mp hi).1) (List.mem_filter.mp hi).2)
theorem side_e (H : qok mp sz X Y fc oc q) (f : Nat) : slP (fun i => decide (fcM (twS (crR (cor mp X Y q) (sz q.2)) (sz q.2)) (crR (cor mp X Y q) (sz q.2)) i = f)) (itM (crR (cor mp X Y q) (sz q.2))) (sz q.2) = sideL mp sz X Y fc q f := by
  obtain ⟨h0, h1, h2, h3, h4, h5, h6⟩ := H
  have k : ∀ i, i < sz q.2 → fcM (twS (crR (cor mp X Y q) (sz q.2)) (sz q.2)) (crR (cor mp X Y q) (sz q.2)) i = mvF (mvW mp q.1) (fc q.2 i) := fun i hi => by
    rw [h4 i hi]
    exact fc_mv (M := mvW mp q.1) (mvW_q mp q.1) h1 h3 hi
  refine sl_cg (fun i hi => by rw [k i hi]) (fun i hi hP => ?_)
  rw [it_sd hi (twS (crR (cor mp X Y q) (sz q.2)) (sz q.2)), k i hi, of_decide_eq_true hP]
theorem gpL_e (M : mvT) (fV fW : Nat) (near lim lr : Int) (en : Int32) (a c hmI : Int) (f g : Nat → Nat) (s t : Nat → iT) (n m : Nat) : gpL M fV fW near lim lr en a c hmI f g s t n m = (acL (upr fV) near lim lr en a c hmI (slP (fun i => decide (f i = fV)) s n) (slP (fun i => decide (g i = fW)) t m)).map (mvR M) := by
  unfold gpL acL slP
  rw [fM_m, fM_c, fM_f]
  refine fM_e _ (fun i _ => ?_)
  by_cases e : f i = fV
  · rw [if_pos (decide_eq_true e), fM_c, fM_f, fM_m]
    refine fM_e _ (fun j _ => ?_)
    unfold gpR
    by_cases e2 : g j = fW
    · rw [if_pos ⟨e, e2⟩, if_pos (decide_eq_true e2)]
    · rw [if_neg (fun q => e2 q.2), if_neg (fun q => e2 (of_decide_eq_true q))]; rfl
  · rw [if_neg (fun q => e (of_decide_eq_true q))]
    refine fM_z _ (fun j _ => ?_)
    unfold gpR
    rw [if_neg (fun q => e q.1)]
theorem gQ_e {n pg : Nat → Nat} {cc : Nat → Nat → Int × Int} {v w : Nat} (hq : qok mp sz X Y fc oc q) (hr : qok mp sz X Y fc oc r) (e1 : n v = sz q.2) (e2 : cc v = crR (cor mp X Y q) (sz q.2)) (e3 : n w = sz r.2) (e4 : cc w = crR (cor mp X Y r) (sz r.2)) (M : mvT) (x3 x4 x6 : Int32) (hmI : Int) (fV fW : Nat) (near : Int) (tu : Int32) : gQ M x3 x4 x6 hmI n pg cc v fV w fW near tu = (acL (upr fV) near x3.toInt (lrn x4).toInt x6 ((pg (if tu = 0 then v else w) : Nat) : Int) (if v = w then -1 else ((pg (if tu = 0 then w else v) : Nat) : Int)) hmI (sideL mp sz X Y fc q fV) (sideL mp sz X Y fc r fW)).map (mvR M) := by
  unfold gQ
  rw [gpL_e, e1, e2, e3, e4, side_e hq, side_e hr]
/-- outer corners -/
theorem fx_e (H : qok mp sz X Y fc oc q) {i : Nat} (hi : i < sz q.2) {f : Nat} (hf : f < 4) : fxM (twS (crR (cor mp X Y q) (sz q.2)) (sz q.2)) (crR (cor mp X Y q) (sz q.2)) (sz q.2) i f ((f + 1) % 4) ↔ cpt (mvW mp q.1) f (oc q.2 i) = true := by
  obtain ⟨h0, h1, h2, h3, h4, h5, h6⟩ := H
  rw [h5 i hi]
  exact oc_mv (M := mvW mp q.1) (mvW_q mp q.1) h1 h3 h2 hi hf
theorem cnR_e (M : mvT) (lim a c hmI : Int) (U D : Prop) [Decidable U] [Decidable D] (p q : Int × Int) : cnR M lim a c hmI U D p q = (if U then (coR true lim a c hmI (p.1, p.2, 0) (q.1, q.2, 0)).map (mvR M) else []) ++ (if D then (coR false lim a c hmI (p.1, p.2, 0) (q.1, q.2, 0)).map (mvR M) else []) := by
  have sq : (p.2 - q.2) * (p.2 - q.2) = (q.2 - p.2) * (q.2 - p.2) := by grind
  have e1 : (coR true lim a c hmI (p.1, p.2, 0) (q.1, q.2, 0)).map (mvR M) = if 0 < q.1 - p.1 ∧ 0 < q.2 - p.2 ∧ (q.1 - p.1) * (q.1 - p.1) + (q.2 - p.2) * (q.2 - p.2) < lim * lim then [mvR M (rwI p.1 (min p.2 q.2) q.1 (max p.2 q.2) a c ((q.1 - p.1) * (q.1 - p.1) + (q.2 - p.2) * (q.2 - p.2)) hmI)] else [] := by
    unfold coR
    simp only [if_true]
    split <;> rfl
  have e2 : (coR false lim a c hmI (p.1, p.2, 0) (q.1, q.2, 0)).map (mvR M) = if 0 < q.1 - p.1 ∧ q.2 - p.2 < 0 ∧ (q.1 - p.1) * (q.1 - p.1) + (q.2 - p.2) * (q.2 - p.2) < lim * lim then [mvR M (rwI p.1 (min p.2 q.2) q.1 (max p.2 q.2) a c ((q.1 - p.1) * (q.1 - p.1) + (q.2 - p.2) * (q.2 - p.2)) hmI)] else [] := by
    unfold coR
    simp only [Bool.false_eq_true, if_false, sq]
    by_cases k : 0 < q.1 - p.1 ∧ q.2 - p.2 < 0 ∧ (q.1 - p.1) * (q.1 - p.1) + (q.2 - p.2) * (q.2 - p.2) < lim * lim
    · rw [if_pos k, if_pos ⟨k.1, by omega, k.2.2⟩]; rfl
    · rw [if_neg k, if_neg (fun z => k ⟨z.1, by omega, z.2.2⟩)]; rfl
  rw [e1, e2]
  unfold cnR
  by_cases hU : U <;> by_cases hD : D <;> by_cases k1 : 0 < q.1 - p.1 <;> by_cases k2 : 0 < q.2 - p.2 <;> by_cases k3 : q.2 - p.2 < 0 <;> by_cases k4 : (q.1 - p.1) * (q.1 - p.1) + (q.2 - p.2) * (q.2 - p.2) < lim * lim <;> first | (exfalso; omega) | (simp [hU, hD, k1, k2, k3, k4]; done) | (simp [hU, hD, k1, k2, k3, k4]; omega)
theorem cnL_e (hq : qok mp sz X Y fc oc q) (hr : qok mp sz X Y fc oc r) (M : mvT) (lim a c hmI : Int) : (cnL M lim a c hmI (twS (crR (cor mp X Y q) (sz q.2)) (sz q.2)) (twS (crR (cor mp X Y r) (sz r.2)) (sz r.2)) (crR (cor mp X Y q) (sz q.2)) (crR (cor mp X Y r) (sz r.2)) (sz q.2) (sz r.2)).Perm ((coL true lim a c hmI (cornL mp sz X Y oc q 0) (cornL mp sz X Y oc r 2) ++ coL false lim a c hmI (cornL mp sz X Y oc q 3) (cornL mp sz X Y oc r 1)).map (mvR M)) := by
  have key : ∀ (up : Bool) (f g : Nat), (coL up lim a c hmI (cornL mp sz X Y oc q f) (cornL mp sz X Y oc r g)).map (mvR M) = (List.range (sz q.2)).flatMap (fun i => (List.range (sz r.2)).flatMap (fun j => if cpt (mvW mp q.1) f (oc q.2 i) = true ∧ cpt (mvW mp r.1) g (oc r.2 j) = true then (coR up lim a c hmI ((cor mp X Y q i).1, (cor mp X Y q i).2, 0) ((cor mp X Y r j).1, (cor mp X Y r j).2, 0)).map (mvR M) else [])) := by
    intro up f g
    unfold coL cornL slP
    rw [fM_m, fM_c, fM_f]
    refine fM_e _ (fun i _ => ?_)
    by_cases e : cpt (mvW mp q.1) f (oc q.2 i) = true
    · rw [if_pos e, fM_m, fM_c, fM_f]
      refine fM_e _ (fun j _ => ?_)
      by_cases e2 : cpt (mvW mp r.1) g (oc r.2 j) = true
      · rw [if_pos e2, if_pos ⟨e, e2⟩]
      · rw [if_neg e2, if_neg (fun z => e2 z.2)]
    · rw [if_neg e]
      exact (fM_z _ (fun j _ => if_neg (fun z => e z.1))).symm
  rw [List.map_append, key, key]
  unfold cnL
  refine List.Perm.trans ?_ (fM_a _ _ _)
  refine fM_p _ (fun i hi => ?_)
  refine List.Perm.trans ?_ (fM_a _ _ _)
  refine fM_p _ (fun j hj => ?_)
  have hi := List.mem_range.mp hi
  have hj := List.mem_range.mp hj
  rw [cnR_e, crR_i hi, crR_i hj]
  have u1 := fx_e hq hi (f := 0) (by decide)
  have u2 := fx_e hr hj (f := 2) (by decide)
  have u3 := fx_e hq hi (f := 3) (by decide)
  have u4 := fx_e hr hj (f := 1) (by decide)
  refine List.Perm.of_eq ?_
  congr 1
  · by_cases e : cpt (mvW mp q.1) 0 (oc q.2 i) = true ∧ cpt (mvW mp r.1) 2 (oc r.2 j) = true
    · rw [if_pos e, if_pos ⟨u1.mpr e.1, u2.mpr e.2⟩]
    · rw [if_neg e, if_neg (fun z => e ⟨u1.mp z.1, u2.mp z.2⟩)]
  · by_cases e : cpt (mvW mp q.1) 3 (oc q.2 i) = true ∧ cpt (mvW mp r.1) 1 (oc r.2 j) = true
    · rw [if_pos e, if_pos ⟨u3.mpr e.1, u4.mpr e.2⟩]
    · rw [if_neg e, if_neg (fun z => e ⟨u3.mp z.1, u4.mp z.2⟩)]
/-- what a pair tells, in the class's words, layers left out -/
def bK (kd : Nat) (x3 x4 x5 x6 : Int32) (hmI : Int) (vo : Nat → Int32) (mp : Nat → mvT) (sz : Nat → Nat) (X Y : Nat → Nat → Int) (fc : Nat → Nat → Nat) (oc : Nat → Nat → Option Nat) (q r : List Nat × Nat) : List (List Int64) :=
  if tnM x5 (vo q.2) (vo r.2) ∧ (¬ (kd = 9 ∨ kd = 10) ∨ bxV (cor mp X Y q) (cor mp X Y r) (sz q.2) (sz r.2)) then
    (if kd = 8 then jCo x3 hmI (cornL mp sz X Y oc) q r ++ jCo x3 hmI (cornL mp sz X Y oc) r q
    else if kd = 7 then jSp kd x3 x4 x6 hmI (sideL mp sz X Y fc) [q, r] 0 1 ++ jSp kd x3 x4 x6 hmI (sideL mp sz X Y fc) [q, r] 1 0
    else if kd = 10 then jOv kd x3 x4 x6 hmI (sideL mp sz X Y fc) [q, r] 0 1 ++ jOv kd x3 x4 x6 hmI (sideL mp sz X Y fc) [q, r] 1 0
    else acq kd x3 x4 x6 hmI (sideL mp sz X Y fc) [q, r] 0 0 1 0 (q.2 : Int) (r.2 : Int) ++ (acq kd x3 x4 x6 hmI (sideL mp sz X Y fc) [q, r] 0 1 1 1 (q.2 : Int) (r.2 : Int) ++ (acq kd x3 x4 x6 hmI (sideL mp sz X Y fc) [q, r] 1 2 0 2 (q.2 : Int) (r.2 : Int) ++ acq kd x3 x4 x6 hmI (sideL mp sz X Y fc) [q, r] 1 3 0 3 (q.2 : Int) (r.2 : Int)))) else []
theorem mnF_cg {f g : Nat → Int} : ∀ k, (∀ i, i ≤ k → f i = g i) → mnF f k = mnF g k
  | 0, h => h 0 (Nat.le_refl 0)
  | k + 1, h => by show min (mnF f k) (f (k + 1)) = min (mnF g k) (g (k + 1)); rw [mnF_cg k (fun i hi => h i (by omega)), h (k + 1) (Nat.le_refl _)]
theorem mxF_cg {f g : Nat → Int} : ∀ k, (∀ i, i ≤ k → f i = g i) → mxF f k = mxF g k
  | 0, h => h 0 (Nat.le_refl 0)
  | k + 1, h => by show max (mxF f k) (f (k + 1)) = max (mxF g k) (g (k + 1)); rw [mxF_cg k (fun i hi => h i (by omega)), h (k + 1) (Nat.le_refl _)]
theorem bxk_cr {C : Nat → Int × Int} {n : Nat} (hn : 0 < n) (j : Nat) : bxk (crR C n) (n - 1) j = bxk C (n - 1) j := by
  unfold bxk
  split
  · exact mnF_cg _ (fun i hi => by rw [crR_i (by omega)])
  · exact mnF_cg _ (fun i hi => by rw [crR_i (by omega)])
  · exact mxF_cg _ (fun i hi => by rw [crR_i (by omega)])
  · exact mxF_cg _ (fun i hi => by rw [crR_i (by omega)])
theorem bxV_cr {C D : Nat → Int × Int} {n m : Nat} (hn : 0 < n) (hm : 0 < m) : bxV (crR C n) (crR D m) n m ↔ bxV C D n m := by
  unfold bxV
  rw [bxk_cr hn, bxk_cr hm, bxk_cr hn, bxk_cr hm, bxk_cr hn, bxk_cr hm, bxk_cr hn, bxk_cr hm]
theorem pm_s {β : Type} (a b c d : List β) : ((a ++ b) ++ (c ++ d)).Perm ((a ++ c) ++ (b ++ d)) := by
  rw [List.append_assoc, List.append_assoc]
  refine (List.Perm.refl a).append ?_
  rw [← List.append_assoc, ← List.append_assoc]
  exact List.Perm.append List.perm_append_comm (List.Perm.refl d)
theorem r2_e {β : Type} (F : Nat → List β) : (List.range 2).flatMap F = F 0 ++ F 1 := by
  show F 0 ++ (F 1 ++ []) = _
  rw [List.append_nil]
theorem bQ_e (hq : qok mp sz X Y fc oc q) (hr : qok mp sz X Y fc oc r) {n pg : Nat → Nat} {cc : Nat → Nat → Int × Int} (e1 : n 0 = sz q.2) (e2 : cc 0 = crR (cor mp X Y q) (sz q.2)) (e3 : n 1 = sz r.2) (e4 : cc 1 = crR (cor mp X Y r) (sz r.2)) (e5 : pg 0 = q.2) (e6 : pg 1 = r.2) (M : mvT) (kd : Nat) (hkd : kd = 7 ∨ kd = 8 ∨ kd = 9 ∨ kd = 10) (x3 x4 x5 x6 : Int32) (hmI : Int) (vo : Nat → Int32) : (bQ M kd x3 x4 x5 x6 hmI n pg cc vo).Perm ((bK kd x3 x4 x5 x6 hmI vo mp sz X Y fc oc q r).map (mvR M)) := by
  unfold bQ bK
  have hb := bxV_cr (C := cor mp X Y q) (D := cor mp X Y r) (n := sz q.2) (m := sz r.2) (by have := hq.1; omega) (by have := hr.1; omega)
  by_cases c : tnM x5 (vo q.2) (vo r.2) ∧ (¬ (kd = 9 ∨ kd = 10) ∨ bxV (cor mp X Y q) (cor mp X Y r) (sz q.2) (sz r.2))
  · rw [if_pos c, if_pos (by rw [e1, e2, e3, e4, e5, e6]; exact ⟨c.1, c.2.imp (fun z => z) (fun z => hb.mpr z)⟩)]
    unfold bQ0
    rcases hkd with rfl | rfl | rfl | rfl
    · rw [if_neg (by decide), if_neg (by decide), if_pos rfl, r2_e]
      unfold bQf
      rw [if_pos rfl, if_pos rfl, gQ_e hq hr e1 e2 e3 e4, gQ_e hr hq e3 e4 e1 e2, gQ_e hq hr e1 e2 e3 e4, gQ_e hr hq e3 e4 e1 e2, List.map_append]
      unfold jSp
      rw [List.map_append, List.map_append]
      simp only [if_true, if_neg (show ¬ (0 : Nat) = 1 by decide), if_neg (show ¬ (1 : Nat) = 0 by decide), e5, e6]
      exact pm_s _ _ _ _
    · rw [if_pos rfl, if_pos rfl]
      unfold cQ
      rw [e1, e2, e3, e4, e5, e6, List.map_append]
      exact (cnL_e hq hr M _ _ _ _).append (cnL_e hr hq M _ _ _ _)
    · rw [if_neg (by decide), if_neg (by decide), if_neg (by decide), if_neg (by decide), r2_e]
      unfold bQf
      rw [if_neg (by decide), if_neg (by decide), if_neg (by decide), if_neg (by decide), gQ_e hq hr e1 e2 e3 e4, gQ_e hr hq e3 e4 e1 e2, gQ_e hq hr e1 e2 e3 e4, gQ_e hr hq e3 e4 e1 e2, List.map_append, List.map_append, List.map_append]
      simp only [if_true, if_neg (show ¬ (0 : Nat) = 1 by decide), if_neg (show ¬ (1 : Nat) = 0 by decide), if_neg (show ¬ (1 : Int32) = 0 by decide), e5, e6]
      refine (pm_s _ _ _ _).trans ?_
      rw [List.append_assoc]
      exact List.Perm.refl _
    · rw [if_neg (by decide), if_neg (by decide), if_neg (by decide), if_pos rfl, r2_e]
      unfold bQf
      rw [if_neg (by decide), if_pos rfl, if_neg (by decide), if_pos rfl, gQ_e hq hr e1 e2 e3 e4, gQ_e hr hq e3 e4 e1 e2, gQ_e hq hr e1 e2 e3 e4, gQ_e hr hq e3 e4 e1 e2, List.map_append]
      unfold jOv
      rw [List.map_append, List.map_append]
      simp only [if_true, if_neg (show ¬ (0 : Nat) = 1 by decide), if_neg (show ¬ (1 : Nat) = 0 by decide), if_neg (show ¬ (1 : Int32) = 0 by decide), e5, e6]
      exact pm_s _ _ _ _
  · rw [if_neg c, if_neg (by rw [e1, e2, e3, e4, e5, e6]; exact fun z => c ⟨z.1, z.2.imp (fun z => z) (fun z => hb.mp z)⟩)]
    exact List.Perm.refl _
end ROWS
