section SUM
variable {nc np pl : Nat} {R : Nat → Bool} {hm p3 p4 : Nat → Nat} {ly vo ar : Nat → Int32} {mp : Nat → mvT} {sz : Nat → Nat} {X Y : Nat → Nat → Int} {fc : Nat → Nat → Nat} {oc : Nat → Nat → Option Nat} {rk : Nat → Nat}
/-- the layout, for the sums -/
def lyh (nc np pl : Nat) (R : Nat → Bool) (hm p3 p4 : Nat → Nat) (vo ar : Nat → Int32) (mp : Nat → mvT) (sz : Nat → Nat) (X Y : Nat → Nat → Int) (fc : Nat → Nat → Nat) (oc : Nat → Nat → Option Nat) (rk : Nat → Nat) : Prop :=
  nc ≤ 16 ∧ np ≤ 64 ∧ pl ≤ 32 ∧ (∀ i, i < pl → rk (p4 i) < rk (p3 i)) ∧ (∀ c, c < nc → rk c < nc) ∧ (∀ i, i < pl → p3 i < nc ∧ p4 i < nc) ∧ coB np R sz X Y ∧ (∀ i, i < pl → mvB mp i) ∧ (∀ p, p < np → -1000000 ≤ (vo p).toInt ∧ (vo p).toInt ≤ 1000000) ∧
  ∀ p, p < np → R p = true → 4 ≤ sz p ∧ rcI (sz p) (fun k => (X p k, Y p k)) ∧ alI (sz p) (fun k => (X p k, Y p k)) ∧ arP (sz p) (fun k => (X p k, Y p k)) ≠ 0 ∧ (∀ i, i < sz p → fc p i = fcI (sz p) (fun k => (X p k, Y p k)) i) ∧ (∀ i, i < sz p → oc p i = ocI (sz p) (fun k => (X p k, Y p k)) i) ∧ (ar p).toInt = (if lfI (sz p) (fun k => (X p k, Y p k)) = true then arP (sz p) (fun k => (X p k, Y p k)) else - arP (sz p) (fun k => (X p k, Y p k)))
theorem lyh_q (H : lyh nc np pl R hm p3 p4 vo ar mp sz X Y fc oc rk) {q : List Nat × Nat} (h1 : q.2 < np) (h2 : R q.2 = true) (h3 : q.1.length < 16) (h4 : ∀ i, i ∈ q.1 → i < pl) : qok mp sz X Y fc oc q := by
  obtain ⟨_, _, _, _, _, _, hC, hM, _, hP⟩ := H
  obtain ⟨a, b, c, d, e, f, _⟩ := hP q.2 h1 h2
  exact ⟨a, b, c, d, e, f, cor_b hC hM h1 h2 h3 h4⟩
theorem lyh_m (H : lyh nc np pl R hm p3 p4 vo ar mp sz X Y fc oc rk) {c : Nat} {q : List Nat × Nat} (h : q ∈ dS np pl (rQ R hm) p3 p4 16 c []) : q.2 < np ∧ R q.2 = true ∧ q.1.length < 16 ∧ (∀ i, i ∈ q.1 → i < pl) ∧ qok mp sz X Y fc oc q := by
  obtain ⟨a, ⟨d, b⟩, w, e, f, g⟩ := dS_mem _ _ _ _ h
  rw [List.nil_append] at e
  have b2 := (rQ_iff.mp b).1
  exact ⟨a, b2, by rw [e]; exact f, by rw [e]; exact g, lyh_q H a b2 (by rw [e]; exact f) (by rw [e]; exact g)⟩
/-- what the class tells of a pair in cell c -/
def kC (kd : Nat) (l1 l2 x3 x4 x5 x6 : Int32) (ly vo : Nat → Int32) (mp : Nat → mvT) (sz : Nat → Nat) (X Y : Nat → Nat → Int) (fc : Nat → Nat → Nat) (oc : Nat → Nat → Option Nat) (c : Nat) (q r : List Nat × Nat) : List (List Int64) := if sbr q.1 r.1 = true then [] else jPr kd l1 l2 x3 x4 x5 x6 (c : Int) ly vo mp sz X Y (kT kd mp sz X Y fc oc) [q, r] 0 1
/-- both ways of a pair, as the model goes through them -/
def hP (fl : Int32) (kd : Nat) (l1 l2 x3 x4 x5 x6 : Int32) (p4 : Nat → Nat) (ly vo : Nat → Int32) (mp : Nat → mvT) (sz : Nat → Nat) (X Y : Nat → Nat → Int) (top : Nat) (x y : List Nat × Nat) : List (List Int64) := (if ly x.2 = l1 ∧ ly y.2 = l2 then pQ fl kd x3 x4 x5 x6 p4 vo mp sz X Y top x y else []) ++ (if ly y.2 = l1 ∧ ly x.2 = l2 ∧ (kd = 9 ∨ l1 ≠ l2) then pQ fl kd x3 x4 x5 x6 p4 vo mp sz X Y top y x else [])
theorem go_PS (fl : Int32) (kd : Nat) (hkd : ¬ kd < 7) (l1 l2 x3 x4 x5 x6 : Int32) (top : Nat) (O : List (List Nat × Nat)) : (goQ fl kd l1 l2 x3 x4 x5 x6 p4 ly vo mp sz X Y top O).Perm (PS (hP fl kd l1 l2 x3 x4 x5 x6 p4 ly vo mp sz X Y top) O) := by
  unfold goQ
  rw [if_neg hkd]
  refine PS_ij ([], 0) (fun x y => if ly x.2 = l1 ∧ ly y.2 = l2 then pQ fl kd x3 x4 x5 x6 p4 vo mp sz X Y top x y else []) (fun x y => if ly x.2 = l1 ∧ ly y.2 = l2 ∧ (kd = 9 ∨ l1 ≠ l2) then pQ fl kd x3 x4 x5 x6 p4 vo mp sz X Y top x y else []) O _ (fun i j hi hj => ?_)
  unfold pgQ
  by_cases e1 : i < j
  · rw [if_pos e1]
    by_cases c : ly (O.getD i ([], 0)).2 = l1 ∧ ly (O.getD j ([], 0)).2 = l2
    · rw [if_pos c, if_pos ⟨by omega, c.1, c.2, Or.inr (Or.inr e1)⟩]
    · rw [if_neg c, if_neg (fun z => c ⟨z.2.1, z.2.2.1⟩)]
  · rw [if_neg e1]
    by_cases e2 : j < i
    · rw [if_pos e2]
      by_cases c : ly (O.getD i ([], 0)).2 = l1 ∧ ly (O.getD j ([], 0)).2 = l2 ∧ (kd = 9 ∨ l1 ≠ l2)
      · rw [if_pos c, if_pos ⟨by omega, c.1, c.2.1, c.2.2.imp (fun z => z) (fun z => Or.inl z)⟩]
      · rw [if_neg c, if_neg (fun z => c ⟨z.2.1, z.2.2.1, by
          rcases z.2.2.2 with z | z | z
          · exact Or.inl z
          · exact Or.inr z
          · exact absurd z e1⟩)]
    · rw [if_neg e2, if_neg (fun z => z.1 (by omega))]
theorem mcl_w (top : Nat) (w a : List Nat) : mcl p4 top (w ++ a) w.length = mcl p4 top w w.length := by
  unfold mcl
  by_cases e : w.length = 0
  · rw [if_pos e, if_pos e]
  · rw [if_neg e, if_neg e, gA_l _ (by omega)]
/-- a pair that meets behind w, as the model sees it -/
theorem pQ_e (H : lyh nc np pl R hm p3 p4 vo ar mp sz X Y fc oc rk) (fl : Int32) (kd : Nat) (hkd : kd = 7 ∨ kd = 8 ∨ kd = 9 ∨ kd = 10) (x3 x4 x5 x6 : Int32) (top : Nat) (w : List Nat) (hw : fl = 0 → w = []) {q r : List Nat × Nat} (hq : qok mp sz X Y fc oc q) (hr : qok mp sz X Y fc oc r) (hs : sbr q.1 r.1 = false) : (pQ fl kd x3 x4 x5 x6 p4 vo mp sz X Y top (shq w q) (shq w r)).Perm ((bK kd x3 x4 x5 x6 (mcl p4 top w w.length : Int) vo mp sz X Y fc oc q r).map (mvR (mvW mp w))) := by
  have e1 : cpx (w ++ q.1) (w ++ r.1) = w.length := by rw [cpx_app, (cpx_sb _ _).mpr hs]; rfl
  unfold pQ
  show (if fl = 0 ∧ 0 < cpx (w ++ q.1) (w ++ r.1) then [] else bQ (mvW mp ((w ++ q.1).take (cpx (w ++ q.1) (w ++ r.1)))) kd x3 x4 x5 x6 (mcl p4 top (w ++ q.1) (cpx (w ++ q.1) (w ++ r.1)) : Int) (prN sz (shq w q) (shq w r)) (prP (shq w q) (shq w r)) (prC mp sz X Y (shq w q) (shq w r) (cpx (w ++ q.1) (w ++ r.1))) vo).Perm _
  rw [e1, if_neg (fun z => by rw [hw z.1] at z; exact absurd z.2 (by decide)), List.take_left, mcl_w]
  have ec : ∀ q : List Nat × Nat, crD mp X Y (shq w q) w.length = cor mp X Y q := fun q => funext fun k => by
    show cor mp X Y ((w ++ q.1).drop w.length, q.2) k = cor mp X Y q k
    rw [List.drop_left]
  refine bQ_e hq hr rfl ?_ rfl ?_ rfl rfl _ kd hkd x3 x4 x5 x6 _ vo
  · show crR (crD mp X Y (shq w q) w.length) (sz q.2) = _
    rw [ec]
  · show crR (crD mp X Y (shq w r) w.length) (sz r.2) = _
    rw [ec]
theorem sbr_c : ∀ a b : List Nat, sbr a b = sbr b a
  | [], [] => rfl
  | [], _ :: _ => rfl
  | _ :: _, [] => rfl
  | i :: a, j :: b => by
    show decide (i = j) = decide (j = i)
    exact decide_eq_decide.mpr ⟨Eq.symm, Eq.symm⟩
theorem hP_e (H : lyh nc np pl R hm p3 p4 vo ar mp sz X Y fc oc rk) (fl : Int32) (kd : Nat) (hkd : kd = 7 ∨ kd = 8 ∨ kd = 9 ∨ kd = 10) (l1 l2 x3 x4 x5 x6 : Int32) (h3 : 0 ≤ x3.toInt) (h5 : x5 = -1 ∨ 0 ≤ x5) (h59 : kd = 9 ∨ kd = 10 → x5 = -1) (top : Nat) (w : List Nat) (hw : fl = 0 → w = []) {q r : List Nat × Nat} (hq : qok mp sz X Y fc oc q) (hr : qok mp sz X Y fc oc r) (pq : q.2 < np) (pr : r.2 < np) (hs : sbr q.1 r.1 = false) : (hP fl kd l1 l2 x3 x4 x5 x6 p4 ly vo mp sz X Y top (shq w q) (shq w r)).Perm ((kC kd l1 l2 x3 x4 x5 x6 ly vo mp sz X Y fc oc (mcl p4 top w w.length) q r).map (mvR (mvW mp w))) := by
  unfold hP kC
  rw [if_neg (show ¬ sbr q.1 r.1 = true by rw [hs]; decide)]
  refine List.Perm.trans ?_ ((jPr_e kd hkd l1 l2 x3 x4 x5 x6 h3 h5 h59 (mcl p4 top w w.length : Int) ly vo hq hr (H.2.2.2.2.2.2.2.2.1 _ pq) (H.2.2.2.2.2.2.2.2.1 _ pr)).map _)
  rw [List.map_append]
  refine List.Perm.append ?_ ?_
  · show (if ly q.2 = l1 ∧ ly r.2 = l2 then pQ fl kd x3 x4 x5 x6 p4 vo mp sz X Y top (shq w q) (shq w r) else []).Perm _
    by_cases c : ly q.2 = l1 ∧ ly r.2 = l2
    · rw [if_pos c, if_pos c]; exact pQ_e H fl kd hkd x3 x4 x5 x6 top w hw hq hr hs
    · rw [if_neg c, if_neg c]; exact List.Perm.refl _
  · show (if ly r.2 = l1 ∧ ly q.2 = l2 ∧ (kd = 9 ∨ l1 ≠ l2) then pQ fl kd x3 x4 x5 x6 p4 vo mp sz X Y top (shq w r) (shq w q) else []).Perm _
    by_cases c : ly r.2 = l1 ∧ ly q.2 = l2 ∧ (kd = 9 ∨ l1 ≠ l2)
    · rw [if_pos c, if_pos c]; exact pQ_e H fl kd hkd x3 x4 x5 x6 top w hw hr hq ((sbr_c _ _).trans hs)
    · rw [if_neg c, if_neg c]; exact List.Perm.refl _
theorem gr_kC (H : lyh nc np pl R hm p3 p4 vo ar mp sz X Y fc oc rk) (kd : Nat) (hkd : kd = 7 ∨ kd = 8 ∨ kd = 9 ∨ kd = 10) (l1 l2 x3 x4 x5 x6 : Int32) (h3 : 0 ≤ x3.toInt) (h5 : x5 = -1 ∨ 0 ≤ x5) (h59 : kd = 9 ∨ kd = 10 → x5 = -1) (c : Nat) {q r : List Nat × Nat} (hq : qok mp sz X Y fc oc q) (hr : qok mp sz X Y fc oc r) (pq : q.2 < np) (pr : r.2 < np) {l : List Int64} (h : l ∈ kC kd l1 l2 x3 x4 x5 x6 ly vo mp sz X Y fc oc c q r) : gr (c : Int) l := by
  have n64 := H.2.1
  unfold kC at h
  split at h
  · exact absurd h (List.not_mem_nil)
  · exact gr_jPr kd hkd l1 l2 x3 x4 x5 x6 h3 h5 h59 c ly vo hq hr (H.2.2.2.2.2.2.2.2.1 _ pq) (H.2.2.2.2.2.2.2.2.1 _ pr) (by omega) (by omega) h
theorem mp_n {c : Int} : ∀ (L : List (List Int64)), (∀ l, l ∈ L → gr c l) → L.map (mvR mvI) = L
  | [], _ => rfl
  | l :: L, h => by rw [List.map_cons, gr_n (h l (List.mem_cons_self)), mp_n L (fun x hx => h x (List.mem_cons_of_mem _ hx))]
/-- by cells: what a cell tells the model -/
theorem by_two (H : lyh nc np pl R hm p3 p4 vo ar mp sz X Y fc oc rk) (kd : Nat) (hkd : kd = 7 ∨ kd = 8 ∨ kd = 9 ∨ kd = 10) (l1 l2 x3 x4 x5 x6 : Int32) (h3 : 0 ≤ x3.toInt) (h5 : x5 = -1 ∨ 0 ≤ x5) (h59 : kd = 9 ∨ kd = 10 → x5 = -1) (c : Nat) : (goQ 0 kd l1 l2 x3 x4 x5 x6 p4 ly vo mp sz X Y c (dS np pl (rQ R hm) p3 p4 16 c [])).Perm (PS (kC kd l1 l2 x3 x4 x5 x6 ly vo mp sz X Y fc oc c) (dS np pl (rQ R hm) p3 p4 16 c [])) := by
  refine (go_PS 0 kd (by omega) l1 l2 x3 x4 x5 x6 c _).trans (PS_p _ (fun q r hq hr => ?_))
  obtain ⟨a1, a2, a3, a4, a5⟩ := lyh_m H hq
  obtain ⟨b1, b2, b3, b4, b5⟩ := lyh_m H hr
  by_cases e : sbr q.1 r.1 = true
  · have e0 : 0 < cpx q.1 r.1 := Nat.pos_of_ne_zero (fun z => by rw [(cpx_sb _ _).mp z] at e; exact absurd e (by decide))
    have e1 : 0 < cpx r.1 q.1 := Nat.pos_of_ne_zero (fun z => by rw [sbr_c, (cpx_sb _ _).mp z] at e; exact absurd e (by decide))
    unfold hP kC pQ
    rw [if_pos (show (0 : Int32) = 0 ∧ 0 < cpx q.1 r.1 from ⟨rfl, e0⟩), if_pos (show (0 : Int32) = 0 ∧ 0 < cpx r.1 q.1 from ⟨rfl, e1⟩), if_pos e]
    split <;> split <;> exact List.Perm.refl _
  · have k := hP_e (ly := ly) H 0 kd hkd l1 l2 x3 x4 x5 x6 h3 h5 h59 c [] (fun _ => rfl) a5 b5 a1 b1 (Bool.eq_false_iff.mpr e)
    have e9 : mcl p4 c [] ([] : List Nat).length = c := rfl
    rw [e9, show mvW mp [] = mvI from rfl, mp_n _ (fun l hl => gr_kC H kd hkd l1 l2 x3 x4 x5 x6 h3 h5 h59 c a5 b5 a1 b1 hl)] at k
    exact k
/-- ways from top -/
def wyT (pl : Nat) (p3 p4 : Nat → Nat) (nc top : Nat) (w : List Nat) (c : Nat) : Prop := mcl p4 top w w.length = c ∧ c < nc ∧ gr_R pl p3 p4 top c
theorem wyT_s (hp : ∀ i, i < pl → p3 i < nc ∧ p4 i < nc) (top : Nat) : ∀ w c i, wyT pl p3 p4 nc top w c → i < pl → p3 i = c → wyT pl p3 p4 nc top (w ++ [i]) (p4 i) := by
  intro w c i h hi e
  refine ⟨mcl_a p4 top w i, (hp i hi).2, fun S s0 s1 => s1 i hi ?_⟩
  rw [e]
  exact h.2.2 S s0 s1
theorem wyT_0 {top : Nat} (h : top < nc) : wyT pl p3 p4 nc top [] top := ⟨rfl, h, fun S s0 _ => s0⟩
/-- flat: what a cell tells the model -/
theorem fl_pairs (H : lyh nc np pl R hm p3 p4 vo ar mp sz X Y fc oc rk) (kd : Nat) (hkd : kd = 7 ∨ kd = 8 ∨ kd = 9 ∨ kd = 10) (l1 l2 x3 x4 x5 x6 : Int32) (h3 : 0 ≤ x3.toInt) (h5 : x5 = -1 ∨ 0 ≤ x5) (h59 : kd = 9 ∨ kd = 10 → x5 = -1) (top : Nat) (ht : top < nc) : (goQ 1 kd l1 l2 x3 x4 x5 x6 p4 ly vo mp sz X Y top (dS np pl (rQ R hm) p3 p4 16 top [])).Perm (lS pl p3 p4 mp (fun c => PS (kC kd l1 l2 x3 x4 x5 x6 ly vo mp sz X Y fc oc c) (dS np pl (rQ R hm) p3 p4 16 c [])) 16 top []) := by
  refine (go_PS 1 kd (by omega) l1 l2 x3 x4 x5 x6 top _).trans ?_
  refine fl_two (rk := rk) (W := wyT pl p3 p4 nc top) H.2.2.2.1 (wyT_s H.2.2.2.2.2.1 top) _ _ (fun w c hw q r hq hr hs => ?_) (fun c q r e => if_pos e) 15 top [] (by have := H.2.2.2.2.1 top ht; have := H.1; omega) (by decide) (wyT_0 ht)
  obtain ⟨a1, a2, a3, a4, a5⟩ := lyh_m H hq
  obtain ⟨b1, b2, b3, b4, b5⟩ := lyh_m H hr
  have k := hP_e (ly := ly) H 1 kd hkd l1 l2 x3 x4 x5 x6 h3 h5 h59 top w (fun z => absurd z (by decide)) a5 b5 a1 b1 hs
  rw [hw.1] at k
  exact k
/-- the class's list of one cell -/
theorem dS_fl (kd : Nat) (l1 l2 : Int32) : ∀ (f c : Nat) (w : List Nat), dS np pl (dQ R hm ly kd l1 l2) p3 p4 f c w = (dS np pl (rQ R hm) p3 p4 f c w).filter (fun q => lk kd l1 l2 (ly q.2))
  | 0, _, _ => rfl
  | f + 1, c, w => by
    show ((List.range np).filter (dQ R hm ly kd l1 l2 c)).map (fun p => (w, p)) ++ (List.range pl).flatMap (fun i => if p3 i = c then dS np pl (dQ R hm ly kd l1 l2) p3 p4 f (p4 i) (w ++ [i]) else []) = (((List.range np).filter (rQ R hm c)).map (fun p => (w, p)) ++ (List.range pl).flatMap (fun i => if p3 i = c then dS np pl (rQ R hm) p3 p4 f (p4 i) (w ++ [i]) else [])).filter (fun q => lk kd l1 l2 (ly q.2))
    rw [List.filter_append, List.filter_map, List.filter_filter]
    have e1 : ∀ (L : List Nat) (F : Nat → List (List Nat × Nat)) (P : List Nat × Nat → Bool), (L.flatMap F).filter P = L.flatMap (fun i => (F i).filter P) := by
      intro L F P
      induction L with
      | nil => rfl
      | cons x L ih => rw [List.flatMap_cons, List.flatMap_cons, List.filter_append, ih]
    rw [e1]
    congr 1
    · congr 1
      refine List.filter_congr (fun p _ => ?_)
      unfold dQ rQ
      show _ = (lk kd l1 l2 (ly p) && (R p && decide (hm p = c)))
      cases R p <;> cases decide (hm p = c) <;> cases lk kd l1 l2 (ly p) <;> rfl
    · refine fM_e _ (fun i _ => ?_)
      by_cases e : p3 i = c
      · rw [if_pos e, if_pos e]; exact dS_fl kd l1 l2 f (p4 i) (w ++ [i])
      · rw [if_neg e, if_neg e]; rfl
theorem brn_sb (hpl : pl ≤ 32) : ∀ a b : List Nat, (∀ i, i ∈ a → i < pl) → (∀ i, i ∈ b → i < pl) → ((brn a = -1 ∨ ¬ brn a = brn b) ↔ ¬ sbr a b = true)
  | [], b, _, _ => ⟨fun _ => by rw [sbr_nl]; decide, fun _ => Or.inl rfl⟩
  | i :: a, [], ha, _ => by
    refine ⟨fun _ => by show ¬ false = true; decide, fun _ => Or.inr (fun e => ?_)⟩
    have hi := ha i (List.mem_cons_self)
    have e : nI i = -1 := e
    have q := congrArg Int32.toInt e
    rw [nI_toI (by omega)] at q
    have q : (i : Int) = -1 := q
    omega
  | i :: a, j :: b, ha, hb => by
    have hi := ha i (List.mem_cons_self)
    have hj := hb j (List.mem_cons_self)
    show ((nI i = -1 ∨ ¬ nI i = nI j) ↔ ¬ decide (i = j) = true)
    constructor
    · intro z e
      have e := of_decide_eq_true e
      rcases z with z | z
      · have q := congrArg Int32.toInt z
        rw [nI_toI (by omega)] at q
        have q : (i : Int) = -1 := q
        omega
      · exact z (by rw [e])
    · intro z
      exact Or.inr (fun e => z (decide_eq_true (nI_i (by omega) (by omega) e)))
theorem jPs_PS (kd : Nat) (l1 l2 x3 x4 x5 x6 : Int32) (hmI : Int) (T : List Nat × Nat → Nat → List (Int × Int × Int)) (S : List (List Nat × Nat)) : jPs kd l1 l2 x3 x4 x5 x6 hmI ly vo mp sz X Y T S S.length = PS (fun q r => if brn q.1 = -1 ∨ ¬ brn q.1 = brn r.1 then jPr kd l1 l2 x3 x4 x5 x6 hmI ly vo mp sz X Y T [q, r] 0 1 else []) S := by
  rw [← PS_up ([], 0) _ S]; rfl
theorem jPr_nl (kd : Nat) (hkd : kd = 7 ∨ kd = 8 ∨ kd = 9 ∨ kd = 10) (l1 l2 x3 x4 x5 x6 : Int32) (hmI : Int) (T : List Nat × Nat → Nat → List (Int × Int × Int)) (q r : List Nat × Nat) (h : ¬ ((lk kd l1 l2 (ly q.2)) = true ∧ (lk kd l1 l2 (ly r.2)) = true)) : jPr kd l1 l2 x3 x4 x5 x6 hmI ly vo mp sz X Y T [q, r] 0 1 = [] := by
  have k : ¬ ((ly q.2 = l1 ∧ ly r.2 = l2) ∨ (ly q.2 = l2 ∧ ly r.2 = l1)) := by
    intro z
    apply h
    unfold lk
    rw [decide_eq_true_iff, decide_eq_true_iff]
    rcases z with z | z
    · exact ⟨Or.inr (Or.inr (Or.inl z.1)), Or.inr (Or.inr (Or.inr z.2))⟩
    · exact ⟨Or.inr (Or.inr (Or.inr z.1)), Or.inr (Or.inr (Or.inl z.2))⟩
  unfold jPr
  rcases hkd with rfl | rfl | rfl | rfl
  · rw [if_pos rfl]; exact if_neg (fun z => k z.1)
  · rw [if_neg (by decide), if_pos rfl]; exact if_neg (fun z => k z.1)
  · rw [if_neg (by decide), if_neg (by decide), if_pos rfl]
    have e1 : jEn 9 x3 x4 x6 hmI T [q, r] ly l1 l2 0 1 = [] := if_neg (fun z => k (Or.inl z))
    have e2 : jEn 9 x3 x4 x6 hmI T [q, r] ly l1 l2 1 0 = [] := if_neg (fun z => k (Or.inr ⟨z.2, z.1⟩))
    rw [e1, e2]
    split <;> rfl
  · rw [if_neg (by decide), if_neg (by decide), if_neg (by decide)]; exact if_neg (fun z => k z.2)
theorem jCl_two (H : lyh nc np pl R hm p3 p4 vo ar mp sz X Y fc oc rk) (kd : Nat) (hkd : kd = 7 ∨ kd = 8 ∨ kd = 9 ∨ kd = 10) (l1 l2 x3 x4 x5 x6 : Int32) (c : Nat) : jCl kd l1 l2 x3 x4 x5 x6 np pl R hm p3 p4 ly vo ar mp sz X Y fc oc c = PS (kC kd l1 l2 x3 x4 x5 x6 ly vo mp sz X Y fc oc c) (dS np pl (rQ R hm) p3 p4 16 c []) := by
  have e0 : jCl kd l1 l2 x3 x4 x5 x6 np pl R hm p3 p4 ly vo ar mp sz X Y fc oc c = jPs kd l1 l2 x3 x4 x5 x6 (c : Int) ly vo mp sz X Y (kT kd mp sz X Y fc oc) (dS np pl (dQ R hm ly kd l1 l2) p3 p4 16 c []) (dS np pl (dQ R hm ly kd l1 l2) p3 p4 16 c []).length := by
    unfold jCl kT
    rw [if_neg (by omega)]
    split <;> rfl
  rw [e0, jPs_PS, dS_fl]
  rw [PS_e (g := kC kd l1 l2 x3 x4 x5 x6 ly vo mp sz X Y fc oc c) _ (fun q r hq hr => ?_)]
  · refine PS_f _ (fun q r hq hr z => ?_)
    unfold kC
    split
    · rfl
    · exact jPr_nl kd hkd l1 l2 x3 x4 x5 x6 c _ q r z
  · obtain ⟨a1, a2, a3, a4, a5⟩ := lyh_m H (List.mem_filter.mp hq).1
    obtain ⟨b1, b2, b3, b4, b5⟩ := lyh_m H (List.mem_filter.mp hr).1
    have s := brn_sb H.2.2.1 q.1 r.1 a4 b4
    unfold kC
    by_cases e : sbr q.1 r.1 = true
    · rw [if_pos e, if_neg (fun z => s.mp z e)]
    · rw [if_neg e, if_pos (s.mpr e)]
end SUM
