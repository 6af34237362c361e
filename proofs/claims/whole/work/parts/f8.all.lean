section ALL
variable {nc np pl : Nat} {R : Nat → Bool} {hm p3 p4 : Nat → Nat} {ly vo ar : Nat → Int32} {mp : Nat → mvT} {sz : Nat → Nat} {X Y : Nat → Nat → Int} {fc : Nat → Nat → Nat} {oc : Nat → Nat → Option Nat} {rk : Nat → Nat}
/-- what the class tells of a polygon of cell c itself -/
def kO (kd : Nat) (l1 x3 x4 x6 : Int32) (ly ar : Nat → Int32) (mp : Nat → mvT) (sz : Nat → Nat) (X Y : Nat → Nat → Int) (fc : Nat → Nat → Nat) (c : Nat) (q : List Nat × Nat) : List (List Int64) := if ly q.2 = l1 then jOn kd x3 x4 x6 (c : Int) ar mp sz X Y (sideL mp sz X Y fc) [q] 0 else []
theorem go_fm (fl : Int32) (kd : Nat) (hkd : kd < 7) (l1 l2 x3 x4 x5 x6 : Int32) (top : Nat) (O : List (List Nat × Nat)) : goQ fl kd l1 l2 x3 x4 x5 x6 p4 ly vo mp sz X Y top O = O.flatMap (agQ fl kd l1 x3 x4 x6 p4 ly mp sz X Y top) := by
  unfold goQ
  rw [if_pos hkd]
  exact rg_g ([], 0) (agQ fl kd l1 x3 x4 x6 p4 ly mp sz X Y top) O
theorem arM_e (H : lyh nc np pl R hm p3 p4 vo ar mp sz X Y fc oc rk) {p : Nat} (hp : p < np) (hR : R p = true) : arM (crR (fun k => (X p k, Y p k)) (sz p)) (sz p) = (ar p).toInt := by
  obtain ⟨_, _, _, _, _, _, _, _, _, hP⟩ := H
  obtain ⟨a, b, c, d, e, f, g⟩ := hP p hp hR
  rw [g]
  exact ar_P b
theorem ag_e (H : lyh nc np pl R hm p3 p4 vo ar mp sz X Y fc oc rk) (fl : Int32) (kd : Nat) (hkd : kd < 5) (l1 x3 x4 x6 : Int32) (top : Nat) (w : List Nat) (hw : fl = 0 → w = []) {p : Nat} (hp : p < np) (hR : R p = true) : (agQ fl kd l1 x3 x4 x6 p4 ly mp sz X Y top (w, p)).Perm ((kO kd l1 x3 x4 x6 ly ar mp sz X Y fc (mcl p4 top w w.length) ([], p)).map (mvR (mvW mp w))) := by
  unfold agQ kO
  by_cases c : ly p = l1
  · rw [if_pos (show ly p = l1 ∧ (fl ≠ 0 ∨ w.length = 0) from ⟨c, by
      by_cases e : fl = 0
      · exact Or.inr (by rw [hw e]; rfl)
      · exact Or.inl e⟩), if_pos c]
    have e1 : crD mp X Y (w, p) w.length = cor mp X Y ([], p) := funext fun k => by
      show cor mp X Y (w.drop w.length, p) k = _
      rw [List.drop_length]
    show (aQ (mvW mp (w.take w.length)) kd x3 x4 x6 (mcl p4 top w w.length : Int) (fun _ => sz p) (fun _ => p) (fun _ => crR (crD mp X Y (w, p) w.length) (sz p)) (arM (crR (fun k => (X p k, Y p k)) (sz p)) (sz p))).Perm _
    rw [e1, List.take_length, arM_e H hp hR]
    exact aQ_e p (lyh_q H hp hR (by show 0 < 16; decide) (fun i hi => absurd hi (List.not_mem_nil))) _ kd hkd x3 x4 x6 _ ar rfl
  · rw [if_neg (fun z => c z.1), if_neg c]
    exact List.Perm.refl _
theorem gr_kO (H : lyh nc np pl R hm p3 p4 vo ar mp sz X Y fc oc rk) (kd : Nat) (l1 x3 x4 x6 : Int32) (c : Nat) {p : Nat} (hp : p < np) (hR : R p = true) {l : List Int64} (h : l ∈ kO kd l1 x3 x4 x6 ly ar mp sz X Y fc c ([], p)) : gr (c : Int) l := by
  have n64 := H.2.1
  unfold kO at h
  split at h
  · exact gr_jOn (q := ([], p)) kd x3 x4 x6 c ar (lyh_q H hp hR (by show 0 < 16; decide) (fun i hi => absurd hi (List.not_mem_nil))) (by show p < 64; omega) h
  · exact absurd h (List.not_mem_nil)
theorem fl_ones (H : lyh nc np pl R hm p3 p4 vo ar mp sz X Y fc oc rk) (kd : Nat) (hkd : kd < 5) (l1 l2 x3 x4 x5 x6 : Int32) (top : Nat) (ht : top < nc) : (goQ 1 kd l1 l2 x3 x4 x5 x6 p4 ly vo mp sz X Y top (dS np pl (rQ R hm) p3 p4 16 top [])).Perm (lS pl p3 p4 mp (fun c => (dO np (rQ R hm) c []).flatMap (kO kd l1 x3 x4 x6 ly ar mp sz X Y fc c)) 16 top []) := by
  rw [go_fm 1 kd (by omega)]
  refine fl_one (W := wyT pl p3 p4 nc top) (wyT_s H.2.2.2.2.2.1 top) _ (kO kd l1 x3 x4 x6 ly ar mp sz X Y fc) (fun w c p hw hp hQ => ?_) 16 top [] (wyT_0 ht)
  have k := ag_e (ly := ly) H 1 kd hkd l1 x3 x4 x6 top w (fun z => absurd z (by decide)) hp (rQ_iff.mp hQ).1
  rw [hw.1] at k
  exact k
theorem by_ones (H : lyh nc np pl R hm p3 p4 vo ar mp sz X Y fc oc rk) (kd : Nat) (hkd : kd < 5) (l1 l2 x3 x4 x5 x6 : Int32) (c : Nat) : (goQ 0 kd l1 l2 x3 x4 x5 x6 p4 ly vo mp sz X Y c (dS np pl (rQ R hm) p3 p4 16 c [])).Perm ((dO np (rQ R hm) c []).flatMap (kO kd l1 x3 x4 x6 ly ar mp sz X Y fc c)) := by
  rw [go_fm 0 kd (by omega)]
  show ((dO np (rQ R hm) c [] ++ (List.range pl).flatMap (fun i => if p3 i = c then dS np pl (rQ R hm) p3 p4 15 (p4 i) ([] ++ [i]) else [])).flatMap _).Perm _
  rw [List.flatMap_append, fM_z ((List.range pl).flatMap _) (fun q hq => ?_), List.append_nil]
  · refine fM_p _ (fun q hq => ?_)
    obtain ⟨a1, a2, a3⟩ := dO_mem hq
    obtain ⟨w, p⟩ := q
    have a3 : w = [] := a3
    subst a3
    have k := ag_e (ly := ly) H 0 kd hkd l1 x3 x4 x6 c [] (fun _ => rfl) a1 (rQ_iff.mp a2).1
    have e9 : mcl p4 c [] ([] : List Nat).length = c := rfl
    rw [e9, show mvW mp [] = mvI from rfl, mp_n _ (fun l hl => gr_kO H kd l1 x3 x4 x6 c a1 (rQ_iff.mp a2).1 hl)] at k
    exact k
  · obtain ⟨i, _, hq⟩ := List.mem_flatMap.mp hq
    split at hq
    · obtain ⟨_, _, t, ht, _⟩ := dS_mem _ _ _ _ hq
      unfold agQ
      refine if_neg (fun z => ?_)
      rcases z.2 with z | z
      · exact z rfl
      · rw [ht, List.length_append] at z
        exact absurd z (by rw [List.nil_append, List.length_singleton]; omega)
    · exact absurd hq (List.not_mem_nil)
theorem dO_fl (kd : Nat) (l1 l2 : Int32) (c : Nat) (w : List Nat) : dO np (dQ R hm ly kd l1 l2) c w = (dO np (rQ R hm) c w).filter (fun q => lk kd l1 l2 (ly q.2)) := by
  unfold dO
  rw [List.filter_map, List.filter_filter]
  congr 1
  refine List.filter_congr (fun p _ => ?_)
  unfold dQ rQ
  show _ = (lk kd l1 l2 (ly p) && (R p && decide (hm p = c)))
  cases R p <;> cases decide (hm p = c) <;> cases lk kd l1 l2 (ly p) <;> rfl
theorem jCl_one (kd : Nat) (hkd : kd < 5) (l1 x3 x4 x5 x6 : Int32) (c : Nat) : jCl kd l1 l1 x3 x4 x5 x6 np pl R hm p3 p4 ly vo ar mp sz X Y fc oc c = (dO np (rQ R hm) c []).flatMap (kO kd l1 x3 x4 x6 ly ar mp sz X Y fc c) := by
  have e0 : jCl kd l1 l1 x3 x4 x5 x6 np pl R hm p3 p4 ly vo ar mp sz X Y fc oc c = (dO np (dQ R hm ly kd l1 l1) c []).flatMap (fun q => jOn kd x3 x4 x6 (c : Int) ar mp sz X Y (sideL mp sz X Y fc) [q] 0) := by
    unfold jCl
    rw [if_pos hkd]
    exact rg_g ([], 0) (fun q => jOn kd x3 x4 x6 (c : Int) ar mp sz X Y (sideL mp sz X Y fc) [q] 0) _
  rw [e0, dO_fl, fM_f]
  refine fM_e _ (fun q _ => ?_)
  unfold kO lk
  by_cases e : ly q.2 = l1
  · rw [if_pos e, if_pos (decide_eq_true (Or.inr (Or.inr (Or.inl e))))]
  · rw [if_neg e, if_neg (fun z => by
      rcases of_decide_eq_true z with z | z | z | z
      · omega
      · omega
      · exact e z
      · exact e z)]
/-- a rule that is not about a whole cell -/
def nwk (kd : Nat) (l1 l2 x3 x5 : Int32) : Prop := (kd < 5 ∨ kd = 7 ∨ kd = 8 ∨ kd = 9 ∨ kd = 10) ∧ (kd < 7 → l2 = l1) ∧ 0 ≤ x3.toInt ∧ (x5 = -1 ∨ 0 ≤ x5) ∧ (kd = 9 ∨ kd = 10 → x5 = -1)
theorem by_all (H : lyh nc np pl R hm p3 p4 vo ar mp sz X Y fc oc rk) (kd : Nat) (l1 l2 x3 x4 x5 x6 : Int32) (K : nwk kd l1 l2 x3 x5) (c : Nat) : (goQ 0 kd l1 l2 x3 x4 x5 x6 p4 ly vo mp sz X Y c (dS np pl (rQ R hm) p3 p4 16 c [])).Perm (jCl kd l1 l2 x3 x4 x5 x6 np pl R hm p3 p4 ly vo ar mp sz X Y fc oc c) := by
  obtain ⟨k1, k2, k3, k4, k5⟩ := K
  rcases k1 with k1 | k1
  · have e := k2 (by omega)
    subst e
    rw [jCl_one kd k1]
    exact by_ones H kd k1 _ _ x3 x4 x5 x6 c
  · rw [jCl_two H kd k1]
    exact by_two H kd k1 l1 l2 x3 x4 x5 x6 k3 k4 k5 c
theorem gr_jCl (H : lyh nc np pl R hm p3 p4 vo ar mp sz X Y fc oc rk) (kd : Nat) (l1 l2 x3 x4 x5 x6 : Int32) (K : nwk kd l1 l2 x3 x5) (c : Nat) {l : List Int64} (h : l ∈ jCl kd l1 l2 x3 x4 x5 x6 np pl R hm p3 p4 ly vo ar mp sz X Y fc oc c) : gr (c : Int) l := by
  obtain ⟨k1, k2, k3, k4, k5⟩ := K
  rcases k1 with k1 | k1
  · have e := k2 (by omega)
    subst e
    rw [jCl_one kd k1] at h
    obtain ⟨q, hq, h⟩ := List.mem_flatMap.mp h
    obtain ⟨a1, a2, a3⟩ := dO_mem hq
    obtain ⟨w, p⟩ := q
    have a3 : w = [] := a3
    subst a3
    exact gr_kO H kd _ x3 x4 x6 c a1 (rQ_iff.mp a2).1 h
  · rw [jCl_two H kd k1] at h
    have key : ∀ L : List (List Nat × Nat), (∀ q, q ∈ L → q ∈ dS np pl (rQ R hm) p3 p4 16 c []) → l ∈ PS (kC kd l1 l2 x3 x4 x5 x6 ly vo mp sz X Y fc oc c) L → gr (c : Int) l := by
      intro L
      induction L with
      | nil => intro _ h; exact absurd h (List.not_mem_nil)
      | cons x L ih =>
        intro hL h
        rcases List.mem_append.mp h with h | h
        · obtain ⟨y, hy, h⟩ := List.mem_flatMap.mp h
          obtain ⟨a1, _, _, _, a5⟩ := lyh_m H (hL x (List.mem_cons_self))
          obtain ⟨b1, _, _, _, b5⟩ := lyh_m H (hL y (List.mem_cons_of_mem _ hy))
          exact gr_kC H kd k1 l1 l2 x3 x4 x5 x6 k3 k4 k5 c a5 b5 a1 b1 h
        · exact ih (fun q hq => hL q (List.mem_cons_of_mem _ hq)) h
    exact key _ (fun _ hq => hq) h
/-- the class's rows, cell by cell -/
def lcC (kd : Nat) (l1 l2 x3 x4 x5 x6 : Int32) (np pl : Nat) (R : Nat → Bool) (hm p3 p4 : Nat → Nat) (ly vo ar : Nat → Int32) (mp : Nat → mvT) (sz : Nat → Nat) (X Y : Nat → Nat → Int) (fc : Nat → Nat → Nat) (oc : Nat → Nat → Option Nat) (nc : Nat) (g : Nat → Bool) (c : Nat) : List (List Int64) := if c < nc ∧ g c = true then jCl kd l1 l2 x3 x4 x5 x6 np pl R hm p3 p4 ly vo ar mp sz X Y fc oc c else []
theorem rg_up {β : Type} (F : Nat → List β) (n : Nat) : ∀ k, (∀ i, n ≤ i → F i = []) → (List.range (n + k)).flatMap F = (List.range n).flatMap F
  | 0, _ => rfl
  | k + 1, h => by
    rw [← Nat.add_assoc, List.range_succ, List.flatMap_append, rg_up F n k h]
    show _ ++ (F (n + k) ++ []) = _
    rw [h (n + k) (by omega)]; exact List.append_nil _
theorem lcC_col (hnc : nc ≤ 16) (kd : Nat) (hkd : ¬ (kd = 5 ∨ kd = 6)) (l1 l2 x3 x4 x5 x6 : Int32) (g : Nat → Bool) (cl : Nat) : jCol kd l1 l2 x3 x4 x5 x6 np pl R hm p3 p4 ly vo ar mp sz X Y fc oc nc g cl = (List.range 16).flatMap (lcC kd l1 l2 x3 x4 x5 x6 np pl R hm p3 p4 ly vo ar mp sz X Y fc oc nc g) := by
  unfold jCol
  rw [if_neg hkd]
  obtain ⟨k, e⟩ := Nat.exists_eq_add_of_le hnc
  rw [e, rg_up (lcC kd l1 l2 x3 x4 x5 x6 np pl R hm p3 p4 ly vo ar mp sz X Y fc oc nc g) nc k (fun i hi => by unfold lcC; exact if_neg (fun z => by omega))]
  unfold jAll
  refine fM_e _ (fun i hi => ?_)
  have hi := List.mem_range.mp hi
  unfold lcC
  by_cases c : g i = true
  · rw [if_pos c, if_pos ⟨hi, c⟩]
  · rw [if_neg c, if_neg (fun z => c z.2)]
theorem gr_lcC (H : lyh nc np pl R hm p3 p4 vo ar mp sz X Y fc oc rk) (kd : Nat) (l1 l2 x3 x4 x5 x6 : Int32) (K : nwk kd l1 l2 x3 x5) (g : Nat → Bool) (c : Nat) {l : List Int64} (h : l ∈ lcC kd l1 l2 x3 x4 x5 x6 np pl R hm p3 p4 ly vo ar mp sz X Y fc oc nc g c) : gr (c : Int) l := by
  unfold lcC at h
  split at h
  · exact gr_jCl H kd l1 l2 x3 x4 x5 x6 K c h
  · exact absurd h (List.not_mem_nil)
theorem fl_all (H : lyh nc np pl R hm p3 p4 vo ar mp sz X Y fc oc rk) (kd : Nat) (l1 l2 x3 x4 x5 x6 : Int32) (K : nwk kd l1 l2 x3 x5) (top : Nat) (ht : top < nc) (g : Nat → Bool) (hg : ∀ d, d < 16 → (g d = true ↔ gr_R pl p3 p4 top d)) : (goQ 1 kd l1 l2 x3 x4 x5 x6 p4 ly vo mp sz X Y top (dS np pl (rQ R hm) p3 p4 16 top [])).Perm (lS pl p3 p4 mp (lcC kd l1 l2 x3 x4 x5 x6 np pl R hm p3 p4 ly vo ar mp sz X Y fc oc nc g) 16 top []) := by
  have n16 := H.1
  have key : ∀ Ld : Nat → List (List Int64), (∀ c, Ld c = jCl kd l1 l2 x3 x4 x5 x6 np pl R hm p3 p4 ly vo ar mp sz X Y fc oc c) → (lS pl p3 p4 mp Ld 16 top []).Perm (lS pl p3 p4 mp (lcC kd l1 l2 x3 x4 x5 x6 np pl R hm p3 p4 ly vo ar mp sz X Y fc oc nc g) 16 top []) := by
    intro Ld hL
    refine lS_p (W := wyT pl p3 p4 nc top) (wyT_s H.2.2.2.2.2.1 top) (fun w c hw => ?_) 16 top [] (wyT_0 ht)
    unfold lcC
    rw [hL c, if_pos ⟨hw.2.1, (hg c (by have := hw.2.1; omega)).mpr hw.2.2⟩]
  obtain ⟨k1, k2, k3, k4, k5⟩ := id K
  rcases k1 with k1 | k1
  · have e := k2 (by omega)
    subst e
    exact (fl_ones H kd k1 _ _ x3 x4 x5 x6 top ht).trans (key _ (fun c => (jCl_one kd k1 _ x3 x4 x5 x6 c).symm))
  · exact (fl_pairs H kd k1 l1 l2 x3 x4 x5 x6 k3 k4 k5 top ht).trans (key _ (fun c => (jCl_two H kd k1 l1 l2 x3 x4 x5 x6 c).symm))
theorem by_cells (H : lyh nc np pl R hm p3 p4 vo ar mp sz X Y fc oc rk) (kd : Nat) (l1 l2 x3 x4 x5 x6 : Int32) (K : nwk kd l1 l2 x3 x5) (g : Nat → Bool) (cl : Nat) : ((List.range nc).flatMap (fun c => if g c = true then goQ 0 kd l1 l2 x3 x4 x5 x6 p4 ly vo mp sz X Y c (dS np pl (rQ R hm) p3 p4 16 c []) else [])).Perm (jCol kd l1 l2 x3 x4 x5 x6 np pl R hm p3 p4 ly vo ar mp sz X Y fc oc nc g cl) := by
  unfold jCol
  rw [if_neg (by have := K.1; omega)]
  unfold jAll
  refine fM_p _ (fun c _ => ?_)
  by_cases e : g c = true
  · rw [if_pos e, if_pos e]; exact by_all H kd l1 l2 x3 x4 x5 x6 K c
  · rw [if_neg e, if_neg e]
/-- nothing below a cell without polygons -/
theorem lcC_0 (H : lyh nc np pl R hm p3 p4 vo ar mp sz X Y fc oc rk) (kd : Nat) (l1 l2 x3 x4 x5 x6 : Int32) (K : nwk kd l1 l2 x3 x5) (g : Nat → Bool) : ∀ (f c : Nat) (w : List Nat), c < nc → oc_n np pl R hm p3 p4 nc c = 0 → lS pl p3 p4 mp (lcC kd l1 l2 x3 x4 x5 x6 np pl R hm p3 p4 ly vo ar mp sz X Y fc oc nc g) f c w = []
  | 0, _, _, _, _ => rfl
  | f + 1, c, w, hc, h0 => by
    have hr := H.2.2.2.1
    have hrk := H.2.2.2.2.1
    have n16 := H.1
    have z16 : oc_n np pl R hm p3 p4 16 c = 0 := (oc_rk (np := np) (R := R) (hm := hm) hr nc c (hrk c hc) 16 n16).trans h0
    have zd : dS np pl (rQ R hm) p3 p4 16 c [] = [] := List.eq_nil_of_length_eq_zero (by
      have := dS_len (np := np) (pl := pl) (Q := rQ R hm) (R := R) (hm := hm) (p3 := p3) (p4 := p4) (fun c p q => rQ_iff.mp q) 16 c []
      omega)
    have zo : dO np (rQ R hm) c [] = [] := (List.append_eq_nil_iff.mp zd).1
    have zc : lcC kd l1 l2 x3 x4 x5 x6 np pl R hm p3 p4 ly vo ar mp sz X Y fc oc nc g c = [] := by
      unfold lcC
      split
      · obtain ⟨k1, k2, k3, k4, k5⟩ := id K
        rcases k1 with k1 | k1
        · have e := k2 (by omega)
          subst e
          rw [jCl_one kd k1, zo]; rfl
        · rw [jCl_two H kd k1, zd]; rfl
      · rfl
    show (lcC kd l1 l2 x3 x4 x5 x6 np pl R hm p3 p4 ly vo ar mp sz X Y fc oc nc g c).map _ ++ (List.range pl).flatMap (fun i => if p3 i = c then lS pl p3 p4 mp (lcC kd l1 l2 x3 x4 x5 x6 np pl R hm p3 p4 ly vo ar mp sz X Y fc oc nc g) f (p4 i) (w ++ [i]) else []) = []
    rw [zc, fM_z _ (fun i hi => ?_)]; rfl
    have hi := List.mem_range.mp hi
    by_cases e : p3 i = c
    · rw [if_pos e]
      refine lcC_0 H kd l1 l2 x3 x4 x5 x6 K g f (p4 i) (w ++ [i]) (H.2.2.2.2.2.1 i hi).2 ?_
      have a := oc_sub (np := np) (R := R) (hm := hm) (p3 := p3) (p4 := p4) hi nc
      have b := oc_rk (np := np) (R := R) (hm := hm) hr nc (p3 i) (hrk _ (H.2.2.2.2.2.1 i hi).1) (nc + 1) (by omega)
      rw [e] at a b
      omega
    · rw [if_neg e]
end ALL
/-- d is reached from c in fewer than f steps -/
def rb (pl : Nat) (p3 p4 : Nat → Nat) : Nat → Nat → Nat → Bool
  | 0, _, _ => false
  | f + 1, c, d => decide (d = c) || (List.range pl).any (fun i => decide (p3 i = c) && rb pl p3 p4 f (p4 i) d)
theorem rb_x {pl : Nat} {p3 p4 : Nat → Nat} {i : Nat} (hi : i < pl) : ∀ (f c : Nat), rb pl p3 p4 f c (p3 i) = true → rb pl p3 p4 (f + 1) c (p4 i) = true
  | 0, _, h => absurd (show false = true from h) (by decide)
  | f + 1, c, h => by
    rw [rb, Bool.or_eq_true] at h
    rw [rb, Bool.or_eq_true]
    right
    rcases h with h | h
    · refine List.any_eq_true.mpr ⟨i, List.mem_range.mpr hi, ?_⟩
      rw [Bool.and_eq_true]
      exact ⟨h, by rw [rb, Bool.or_eq_true]; exact Or.inl (decide_eq_true rfl)⟩
    · obtain ⟨j, hj, h⟩ := List.any_eq_true.mp h
      rw [Bool.and_eq_true] at h
      exact List.any_eq_true.mpr ⟨j, hj, by rw [Bool.and_eq_true]; exact ⟨h.1, rb_x hi f (p4 j) h.2⟩⟩
theorem rb_u {pl : Nat} {p3 p4 : Nat → Nat} : ∀ (f c d : Nat), rb pl p3 p4 f c d = true → rb pl p3 p4 (f + 1) c d = true
  | 0, _, _, h => absurd (show false = true from h) (by decide)
  | f + 1, c, d, h => by
    rw [rb, Bool.or_eq_true] at h
    rw [rb, Bool.or_eq_true]
    rcases h with h | h
    · exact Or.inl h
    · obtain ⟨j, hj, h⟩ := List.any_eq_true.mp h
      rw [Bool.and_eq_true] at h
      exact Or.inr (List.any_eq_true.mpr ⟨j, hj, by rw [Bool.and_eq_true]; exact ⟨h.1, rb_u f (p4 j) d h.2⟩⟩)
theorem rb_le {pl : Nat} {p3 p4 : Nat → Nat} {f g c d : Nat} (h : f ≤ g) (q : rb pl p3 p4 f c d = true) : rb pl p3 p4 g c d = true := by
  obtain ⟨k, rfl⟩ := Nat.exists_eq_add_of_le h
  induction k with
  | zero => exact q
  | succ k ih => exact rb_u _ _ _ (ih (Nat.le_add_right f k))
theorem rb_R {pl : Nat} {p3 p4 rk : Nat → Nat} (hr : ∀ i, i < pl → rk (p4 i) < rk (p3 i)) {c d : Nat} (h : gr_R pl p3 p4 c d) : rb pl p3 p4 (rk c + 1) c d = true := by
  have k := h (fun d => ∃ f, f + rk d ≤ rk c + 1 ∧ rb pl p3 p4 f c d = true) ⟨1, by omega, by rw [rb, Bool.or_eq_true]; exact Or.inl (decide_eq_true rfl)⟩ (fun i hi ⟨f, a, b⟩ => ⟨f + 1, by have := hr i hi; omega, rb_x hi f c b⟩)
  obtain ⟨f, a, b⟩ := k
  exact rb_le (by omega) b
/-- so many, counted once -/
def ctN (P : Nat → Bool) (v : Nat → Nat) : Nat → Nat
  | 0 => 0
  | n + 1 => ctN P v n + (if P n = true then v n else 0)
theorem ctN_or {P Q S : Nat → Bool} {v : Nat → Nat} (h : ∀ d, P d = true → Q d = true ∨ S d = true) : ∀ n, ctN P v n ≤ ctN Q v n + ctN S v n
  | 0 => Nat.le_refl 0
  | n + 1 => by
    have a := ctN_or (v := v) h n
    show ctN P v n + _ ≤ (ctN Q v n + _) + (ctN S v n + _)
    by_cases e : P n = true
    · rw [if_pos e]
      rcases h n e with q | q
      · rw [if_pos q]; split <;> omega
      · rw [if_pos q]; split <;> omega
    · rw [if_neg e]; split <;> split <;> omega
theorem ctN_one {c : Nat} {v : Nat → Nat} : ∀ n, ctN (fun d => decide (d = c)) v n ≤ v c
  | 0 => Nat.zero_le _
  | n + 1 => by
    have a := ctN_one (c := c) (v := v) n
    show ctN _ v n + (if decide (n = c) = true then v n else 0) ≤ v c
    by_cases e : n = c
    · rw [if_pos (decide_eq_true e)]
      have z : ∀ m, m ≤ n → ctN (fun d => decide (d = c)) v m = 0 := by
        intro m
        induction m with
        | zero => intro _; rfl
        | succ m ih =>
          intro hm
          show ctN _ v m + (if decide (m = c) = true then v m else 0) = 0
          rw [ih (by omega), if_neg (fun q => by have := of_decide_eq_true q; omega)]
      rw [z n (Nat.le_refl n), e]; omega
    · rw [if_neg (fun q => e (of_decide_eq_true q))]; exact a
theorem ctN_any {P : Nat → Nat → Bool} {v : Nat → Nat} {L : Nat → Nat} (n : Nat) (h : ∀ i, ctN (P i) v n ≤ L i) : ∀ k, ctN (fun d => (List.range k).any (fun i => P i d)) v n ≤ ((List.range k).map L).sum
  | 0 => by
    have z : ∀ m, ctN (fun d => (List.range 0).any (fun i => P i d)) v m = 0 := by
      intro m
      induction m with
      | zero => rfl
      | succ m ih => show _ + (if false = true then v m else 0) = 0; rw [ih]; rfl
    rw [z]; exact Nat.zero_le _
  | k + 1 => by
    have a := ctN_any n h k
    have b := h k
    have c := ctN_or (P := fun d => (List.range (k + 1)).any (fun i => P i d)) (Q := fun d => (List.range k).any (fun i => P i d)) (S := P k) (v := v) (fun d q => by
      obtain ⟨j, hj, q⟩ := List.any_eq_true.mp q
      rw [List.range_succ] at hj
      rcases List.mem_append.mp hj with hj | hj
      · exact Or.inl (List.any_eq_true.mpr ⟨j, hj, q⟩)
      · rw [List.mem_singleton.mp hj] at q; exact Or.inr q) n
    have r : ((List.range (k + 1)).map L).sum = ((List.range k).map L).sum + (L k + 0) := by rw [List.range_succ, List.map_append, List.sum_append]; rfl
    rw [r]
    omega
theorem lS_ct (pl : Nat) (p3 p4 : Nat → Nat) (mp : Nat → mvT) (Lc : Nat → List (List Int64)) (n : Nat) : ∀ (f c : Nat) (w : List Nat), ctN (fun d => rb pl p3 p4 f c d) (fun d => (Lc d).length) n ≤ (lS pl p3 p4 mp Lc f c w).length
  | 0, c, w => by
    have z : ∀ m, ctN (fun d => rb pl p3 p4 0 c d) (fun d => (Lc d).length) m = 0 := by
      intro m
      induction m with
      | zero => rfl
      | succ m ih => show _ + (if false = true then _ else 0) = 0; rw [ih]; rfl
    rw [z]; exact Nat.zero_le _
  | f + 1, c, w => by
    rw [lS_s, List.length_append, List.length_map, List.length_flatMap]
    have a := ctN_or (P := fun d => rb pl p3 p4 (f + 1) c d) (Q := fun d => decide (d = c)) (S := fun d => (List.range pl).any (fun i => decide (p3 i = c) && rb pl p3 p4 f (p4 i) d)) (v := fun d => (Lc d).length) (fun d q => by
      rw [rb, Bool.or_eq_true] at q; exact q) n
    have b := ctN_one (c := c) (v := fun d => (Lc d).length) n
    have e := ctN_any (P := fun i d => decide (p3 i = c) && rb pl p3 p4 f (p4 i) d) (v := fun d => (Lc d).length) (L := fun i => (if p3 i = c then lS pl p3 p4 mp Lc f (p4 i) (w ++ [i]) else []).length) n (fun i => by
      by_cases q : p3 i = c
      · rw [if_pos q]
        have := lS_ct pl p3 p4 mp Lc n f (p4 i) (w ++ [i])
        refine Nat.le_trans (Nat.le_of_eq ?_) this
        congr 1
        funext d
        rw [decide_eq_true q]; rfl
      · rw [if_neg q]
        have z : ∀ m, ctN (fun d => decide (p3 i = c) && rb pl p3 p4 f (p4 i) d) (fun d => (Lc d).length) m = 0 := by
          intro m
          induction m with
          | zero => rfl
          | succ m ih => show _ + (if (decide (p3 i = c) && _) = true then _ else 0) = 0; rw [ih, decide_eq_false q]; rfl
        rw [z]; exact Nat.zero_le _) pl
    omega
/-- by cells there is no more than flat -/
theorem by_fl {pl : Nat} {p3 p4 rk : Nat → Nat} (hr : ∀ i, i < pl → rk (p4 i) < rk (p3 i)) (mp : Nat → mvT) (Lc : Nat → List (List Int64)) (cl : Nat) (hc : rk cl < 16) (hL : ∀ d, d < 16 → Lc d ≠ [] → gr_R pl p3 p4 cl d) : ((List.range 16).flatMap Lc).length ≤ (lS pl p3 p4 mp Lc 16 cl []).length := by
  refine Nat.le_trans ?_ (lS_ct pl p3 p4 mp Lc 16 16 cl [])
  have key : ∀ n, n ≤ 16 → ((List.range n).flatMap Lc).length ≤ ctN (fun d => rb pl p3 p4 16 cl d) (fun d => (Lc d).length) n := by
    intro n
    induction n with
    | zero => intro _; exact Nat.le_refl 0
    | succ n ih =>
      intro hn
      have a := ih (by omega)
      rw [List.range_succ, List.flatMap_append, List.length_append]
      show _ + (Lc n ++ []).length ≤ ctN _ _ n + (if rb pl p3 p4 16 cl n = true then (Lc n).length else 0)
      rw [List.append_nil]
      by_cases e : Lc n = []
      · rw [e]; show _ + 0 ≤ _; omega
      · rw [if_pos (rb_le (by omega) (rb_R hr (hL n (by omega) e)))]
        omega
  exact key 16 (Nat.le_refl 16)
