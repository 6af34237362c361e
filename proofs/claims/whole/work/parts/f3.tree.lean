section TREE
variable {np pl : Nat} {Q : Nat → Nat → Bool} {p3 p4 : Nat → Nat}
/-- over the same place -/
def sbr : List Nat → List Nat → Bool
  | i :: _, j :: _ => decide (i = j)
  | _, _ => false
theorem sbr_nl (b : List Nat) : sbr [] b = false := by cases b <;> rfl
theorem cpx_sb : ∀ (a b : List Nat), cpx a b = 0 ↔ sbr a b = false
  | [], b => by rw [cpx_nl]; exact ⟨fun _ => rfl, fun _ => rfl⟩
  | i :: a, [] => ⟨fun _ => rfl, fun _ => rfl⟩
  | i :: a, j :: b => by
    show (if i = j then cpx a b + 1 else 0) = 0 ↔ decide (i = j) = false
    by_cases e : i = j
    · rw [if_pos e]; simp [e]
    · rw [if_neg e]; simp [e]
theorem cpx_app : ∀ (w a b : List Nat), cpx (w ++ a) (w ++ b) = w.length + cpx a b
  | [], a, b => by rw [List.nil_append, List.nil_append, List.length_nil, Nat.zero_add]
  | i :: w, a, b => by
    show (if i = i then cpx (w ++ a) (w ++ b) + 1 else 0) = _
    rw [if_pos rfl, cpx_app w a b, List.length_cons]; omega
/-- a way put in front -/
def shq (w : List Nat) (q : List Nat × Nat) : List Nat × Nat := (w ++ q.1, q.2)
theorem dS_sh : ∀ (f c : Nat) (w : List Nat), dS np pl Q p3 p4 f c w = (dS np pl Q p3 p4 f c []).map (shq w)
  | 0, _, _ => rfl
  | f + 1, c, w => by
    show ((List.range np).filter (Q c)).map (fun p => (w, p)) ++ (List.range pl).flatMap (fun i => if p3 i = c then dS np pl Q p3 p4 f (p4 i) (w ++ [i]) else []) = (((List.range np).filter (Q c)).map (fun p => (([] : List Nat), p)) ++ (List.range pl).flatMap (fun i => if p3 i = c then dS np pl Q p3 p4 f (p4 i) ([] ++ [i]) else [])).map (shq w)
    rw [List.map_append, List.map_map, fM_m]
    congr 1
    · exact List.map_congr_left (fun p _ => by
        show (w, p) = (w ++ [], p)
        rw [List.append_nil])
    · refine fM_e _ (fun i _ => ?_)
      by_cases e : p3 i = c
      · rw [if_pos e, if_pos e, dS_sh f (p4 i) (w ++ [i]), dS_sh f (p4 i) ([] ++ [i]), List.map_map]
        exact List.map_congr_left (fun q _ => by
          show ((w ++ [i]) ++ q.1, q.2) = (w ++ (([] ++ [i]) ++ q.1), q.2)
          rw [List.append_assoc]; rfl)
      · rw [if_neg e, if_neg e]; rfl
theorem dS_fu {rk : Nat → Nat} (hr : ∀ i, i < pl → rk (p4 i) < rk (p3 i)) : ∀ (f c : Nat) (w : List Nat), rk c < f → ∀ g, f ≤ g → dS np pl Q p3 p4 g c w = dS np pl Q p3 p4 f c w
  | 0, _, _, h, _, _ => absurd h (Nat.not_lt_zero _)
  | f + 1, c, w, h, 0, hg => absurd hg (by omega)
  | f + 1, c, w, h, g + 1, hg => by
    show _ ++ (List.range pl).flatMap (fun i => if p3 i = c then dS np pl Q p3 p4 g (p4 i) (w ++ [i]) else []) = _ ++ (List.range pl).flatMap (fun i => if p3 i = c then dS np pl Q p3 p4 f (p4 i) (w ++ [i]) else [])
    congr 1
    refine fM_e _ (fun i hi => ?_)
    by_cases e : p3 i = c
    · rw [if_pos e, if_pos e]
      have q := hr i (List.mem_range.mp hi)
      rw [e] at q
      exact dS_fu hr f (p4 i) (w ++ [i]) (by omega) g (by omega)
    · rw [if_neg e, if_neg e]
theorem lS_p {mp : Nat → mvT} {Lc Ld : Nat → List (List Int64)} {W : List Nat → Nat → Prop} (hW : ∀ w c i, W w c → i < pl → p3 i = c → W (w ++ [i]) (p4 i)) (hL : ∀ w c, W w c → (Lc c).Perm (Ld c)) : ∀ (f c : Nat) (w : List Nat), W w c → (lS pl p3 p4 mp Lc f c w).Perm (lS pl p3 p4 mp Ld f c w)
  | 0, _, _, _ => List.Perm.refl _
  | f + 1, c, w, h => by
    refine List.Perm.append ((hL w c h).map _) (fM_p _ (fun i hi => ?_))
    by_cases e : p3 i = c
    · rw [if_pos e, if_pos e]; exact lS_p hW hL f (p4 i) (w ++ [i]) (hW w c i h (List.mem_range.mp hi) e)
    · rw [if_neg e, if_neg e]
/-- one by one: flat is by cells, laid out -/
theorem fl_one {mp : Nat → mvT} {W : List Nat → Nat → Prop} (hW : ∀ w c i, W w c → i < pl → p3 i = c → W (w ++ [i]) (p4 i)) (A : List Nat × Nat → List (List Int64)) (K : Nat → List Nat × Nat → List (List Int64)) (hA : ∀ w c p, W w c → p < np → Q c p = true → (A (w, p)).Perm ((K c ([], p)).map (mvR (mvW mp w)))) : ∀ (f c : Nat) (w : List Nat), W w c → ((dS np pl Q p3 p4 f c w).flatMap A).Perm (lS pl p3 p4 mp (fun c => (dO np Q c []).flatMap (K c)) f c w)
  | 0, _, _, _ => List.Perm.refl _
  | f + 1, c, w, h => by
    show ((((List.range np).filter (Q c)).map (fun p => (w, p)) ++ (List.range pl).flatMap (fun i => if p3 i = c then dS np pl Q p3 p4 f (p4 i) (w ++ [i]) else [])).flatMap A).Perm (((((List.range np).filter (Q c)).map (fun p => (([] : List Nat), p))).flatMap (K c)).map (mvR (mvW mp w)) ++ _)
    rw [List.flatMap_append, fM_c, fM_c, fM_m, fM_as]
    refine List.Perm.append (fM_p _ (fun p hp => ?_)) (fM_p _ (fun i hi => ?_))
    · have q := List.mem_filter.mp hp
      exact hA w c p h (List.mem_range.mp q.1) q.2
    · by_cases e : p3 i = c
      · rw [if_pos e, if_pos e]; exact fl_one hW A K hA f (p4 i) (w ++ [i]) (hW w c i h (List.mem_range.mp hi) e)
      · rw [if_neg e, if_neg e]; exact List.Perm.refl _
/-- the pairs that meet here, and those below -/
theorem fl_step {mp : Nat → mvT} {rk : Nat → Nat} (hr : ∀ i, i < pl → rk (p4 i) < rk (p3 i)) {W : List Nat → Nat → Prop} (hW : ∀ w c i, W w c → i < pl → p3 i = c → W (w ++ [i]) (p4 i)) (H : List Nat × Nat → List Nat × Nat → List (List Int64)) (K : Nat → List Nat × Nat → List Nat × Nat → List (List Int64)) (hH : ∀ w c, W w c → ∀ q r, q ∈ dS np pl Q p3 p4 16 c [] → r ∈ dS np pl Q p3 p4 16 c [] → sbr q.1 r.1 = false → (H (shq w q) (shq w r)).Perm ((K c q r).map (mvR (mvW mp w)))) (hK : ∀ c q r, sbr q.1 r.1 = true → K c q r = []) (f c : Nat) (w : List Nat) (hc : rk c ≤ f) (hf : f ≤ 15) (h : W w c) (ih : ∀ i, i < pl → p3 i = c → (PS H (dS np pl Q p3 p4 f (p4 i) (w ++ [i]))).Perm (lS pl p3 p4 mp (fun c => PS (K c) (dS np pl Q p3 p4 16 c [])) f (p4 i) (w ++ [i]))) : (PS H (dS np pl Q p3 p4 (f + 1) c w)).Perm (lS pl p3 p4 mp (fun c => PS (K c) (dS np pl Q p3 p4 16 c [])) (f + 1) c w) := by
  have hsb : ∀ x y : List Nat × Nat, H x y = (if sbr (x.1.drop w.length) (y.1.drop w.length) = true then [] else H x y) ++ (if sbr (x.1.drop w.length) (y.1.drop w.length) = true then H x y else []) := by
    intro x y
    split
    · exact (List.nil_append _).symm
    · exact (List.append_nil _).symm
  rw [PS_e (g := fun x y => (if sbr (x.1.drop w.length) (y.1.drop w.length) = true then [] else H x y) ++ (if sbr (x.1.drop w.length) (y.1.drop w.length) = true then H x y else [])) _ (fun x y _ _ => hsb x y)]
  refine (PS_a _ _ _).trans ?_
  refine List.Perm.append ?_ ?_
  · rw [dS_sh (f + 1) c w, PS_m, ← dS_fu hr (f + 1) c [] (by omega) 16 (by omega), PS_mm]
    refine PS_p _ (fun q r hq hr2 => ?_)
    show (if sbr ((w ++ q.1).drop w.length) ((w ++ r.1).drop w.length) = true then [] else H (shq w q) (shq w r)).Perm _
    rw [List.drop_left, List.drop_left]
    by_cases e : sbr q.1 r.1 = true
    · rw [if_pos e, hK c q r e]; exact List.Perm.refl _
    · rw [if_neg e]
      exact hH w c h q r hq hr2 (Bool.eq_false_iff.mpr e)
  · have hO : ∀ x, x ∈ ((List.range np).filter (Q c)).map (fun p => (w, p)) → x.1.drop w.length = [] := fun x hx => by
      obtain ⟨p, _, rfl⟩ := List.mem_map.mp hx
      exact List.drop_length
    have hB : ∀ i x, x ∈ (if p3 i = c then dS np pl Q p3 p4 f (p4 i) (w ++ [i]) else []) → ∃ t, x.1.drop w.length = i :: t := fun i x hx => by
      by_cases e : p3 i = c
      · rw [if_pos e] at hx
        obtain ⟨_, _, t, ht, _⟩ := dS_mem _ _ _ _ hx
        refine ⟨t, ?_⟩
        rw [ht, List.append_assoc, List.drop_left]; rfl
      · rw [if_neg e] at hx
        exact absurd hx (List.not_mem_nil)
    show (PS _ (((List.range np).filter (Q c)).map (fun p => (w, p)) ++ (List.range pl).flatMap (fun i => if p3 i = c then dS np pl Q p3 p4 f (p4 i) (w ++ [i]) else []))).Perm _
    refine (PS_ap _ _ _).trans ?_
    rw [PS_z _ (fun x y hx hy => by
      rw [hO x hx, sbr_nl]
      exact if_neg (by decide)), fM_z _ (fun x hx => fM_z _ (fun y _ => by
      rw [hO x hx, sbr_nl]
      exact if_neg (by decide))), List.nil_append, List.nil_append]
    refine (PS_b _ _ pl (fun i j x y q1 q2 hx hy => ?_)).trans (fM_p _ (fun i hi => ?_))
    · obtain ⟨t, ht⟩ := hB i x hx
      obtain ⟨s, hs⟩ := hB j y hy
      rw [ht, hs]
      exact if_neg (show ¬ decide (i = j) = true from fun q => absurd (of_decide_eq_true q) (by omega))
    · rw [PS_e (g := H) _ (fun x y hx hy => by
        obtain ⟨t, ht⟩ := hB i x hx
        obtain ⟨s, hs⟩ := hB i y hy
        rw [ht, hs]
        exact if_pos (show decide (i = i) = true from decide_eq_true rfl))]
      by_cases e : p3 i = c
      · rw [if_pos e, if_pos e]; exact ih i (List.mem_range.mp hi) e
      · rw [if_neg e, if_neg e]; exact List.Perm.refl _
/-- pairs: flat is by cells, laid out -/
theorem fl_two {mp : Nat → mvT} {rk : Nat → Nat} (hr : ∀ i, i < pl → rk (p4 i) < rk (p3 i)) {W : List Nat → Nat → Prop} (hW : ∀ w c i, W w c → i < pl → p3 i = c → W (w ++ [i]) (p4 i)) (H : List Nat × Nat → List Nat × Nat → List (List Int64)) (K : Nat → List Nat × Nat → List Nat × Nat → List (List Int64)) (hH : ∀ w c, W w c → ∀ q r, q ∈ dS np pl Q p3 p4 16 c [] → r ∈ dS np pl Q p3 p4 16 c [] → sbr q.1 r.1 = false → (H (shq w q) (shq w r)).Perm ((K c q r).map (mvR (mvW mp w)))) (hK : ∀ c q r, sbr q.1 r.1 = true → K c q r = []) : ∀ (f c : Nat) (w : List Nat), rk c ≤ f → f ≤ 15 → W w c → (PS H (dS np pl Q p3 p4 (f + 1) c w)).Perm (lS pl p3 p4 mp (fun c => PS (K c) (dS np pl Q p3 p4 16 c [])) (f + 1) c w) := by
  intro f
  induction f with
  | zero =>
    intro c w hc _ h
    exact fl_step hr hW H K hH hK 0 c w hc (by decide) h (fun i hi e => absurd (hr i hi) (by rw [e]; omega))
  | succ f ih =>
    intro c w hc hf h
    exact fl_step hr hW H K hH hK (f + 1) c w hc hf h (fun i hi e => ih (p4 i) (w ++ [i]) (by have := hr i hi; rw [e] at this; omega) (by omega) (hW w c i h hi e))
end TREE
