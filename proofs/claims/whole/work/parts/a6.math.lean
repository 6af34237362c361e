theorem nI_toI {n : Nat} (h : n < 2 ^ 31) : (nI n).toInt = (n : Int) := iN_to (a := (n : Int)) (by omega) (by omega)
theorem dr_c {α : Type} {A : List α} {x : Nat} (d : α) (h : x < A.length) : A.drop x = A.getD x d :: A.drop (x + 1) := by
  rw [List.getD_eq_getElem?_getD, List.getElem?_eq_getElem h]
  exact List.drop_eq_getElem_cons h
theorem mvA_b {M : mvT} {p : Int × Int} {A B : Int} (h1 : -A ≤ p.1 ∧ p.1 ≤ A) (h2 : -A ≤ p.2 ∧ p.2 ≤ A) (h3 : -B ≤ M.2.2.1 ∧ M.2.2.1 ≤ B) (h4 : -B ≤ M.2.2.2 ∧ M.2.2.2 ≤ B) : (-(A + B) ≤ (mvA M p).1 ∧ (mvA M p).1 ≤ A + B) ∧ -(A + B) ≤ (mvA M p).2 ∧ (mvA M p).2 ≤ A + B := by
  unfold mvA sg
  cases M.1
  · split <;> (dsimp only; rw [if_neg (by decide)]; omega)
  · split <;> (dsimp only; rw [if_pos rfl]; omega)
/-- a place's move goes not too far -/
def mvB (mp : Nat → mvT) (i : Nat) : Prop := (-10000 ≤ (mp i).2.2.1 ∧ (mp i).2.2.1 ≤ 10000) ∧ -10000 ≤ (mp i).2.2.2 ∧ (mp i).2.2.2 ≤ 10000
theorem mvW_b {mp : Nat → mvT} : ∀ (n : Nat) (w : List Nat), w.length = n → (∀ i, i ∈ w → mvB mp i) → (-(10000 * (n : Int)) ≤ (mvW mp w).2.2.1 ∧ (mvW mp w).2.2.1 ≤ 10000 * (n : Int)) ∧ -(10000 * (n : Int)) ≤ (mvW mp w).2.2.2 ∧ (mvW mp w).2.2.2 ≤ 10000 * (n : Int) := by
  intro n
  induction n with
  | zero =>
    intro w hw _
    rw [List.eq_nil_of_length_eq_zero hw]
    show (-(10000 * ((0 : Nat) : Int)) ≤ 0 ∧ (0 : Int) ≤ _) ∧ -(10000 * ((0 : Nat) : Int)) ≤ 0 ∧ (0 : Int) ≤ _
    omega
  | succ n ih =>
    intro w hw hB
    have hne : w ≠ [] := by intro e; rw [e] at hw; exact absurd hw (by simp)
    have e := List.dropLast_concat_getLast hne
    have hl : w.dropLast.length = n := by rw [List.length_dropLast, hw]; rfl
    have a := ih w.dropLast hl (fun i hi => hB i (List.dropLast_subset _ hi))
    have c := hB (w.getLast hne) (List.getLast_mem hne)
    have e2 : mvW mp w = mvJ (mvW mp w.dropLast) (mp (w.getLast hne)) := by rw [← mvW_s, e]
    rw [e2]
    have d := mvA_b (M := mvW mp w.dropLast) (p := ((mp (w.getLast hne)).2.2.1, (mp (w.getLast hne)).2.2.2)) (A := 10000) (B := 10000 * (n : Int)) c.1 c.2 a.1 a.2
    show (_ ≤ (mvA (mvW mp w.dropLast) ((mp (w.getLast hne)).2.2.1, (mp (w.getLast hne)).2.2.2)).1 ∧ (mvA (mvW mp w.dropLast) ((mp (w.getLast hne)).2.2.1, (mp (w.getLast hne)).2.2.2)).1 ≤ _) ∧ _ ≤ (mvA (mvW mp w.dropLast) ((mp (w.getLast hne)).2.2.1, (mp (w.getLast hne)).2.2.2)).2 ∧ (mvA (mvW mp w.dropLast) ((mp (w.getLast hne)).2.2.1, (mp (w.getLast hne)).2.2.2)).2 ≤ _
    omega
theorem dS_mem {np pl : Nat} {Q : Nat → Nat → Bool} {p3 p4 : Nat → Nat} : ∀ (f c : Nat) (w : List Nat) (q : List Nat × Nat), q ∈ dS np pl Q p3 p4 f c w → q.2 < np ∧ (∃ d, Q d q.2 = true) ∧ ∃ w', q.1 = w ++ w' ∧ w'.length < f ∧ ∀ i, i ∈ w' → i < pl := by
  intro f
  induction f with
  | zero => intro c w q h; exact absurd h (List.not_mem_nil)
  | succ f ih =>
    intro c w q h
    rcases List.mem_append.mp h with h | h
    · obtain ⟨p, h1, rfl⟩ := List.mem_map.mp h
      have h2 := List.mem_filter.mp h1
      exact ⟨List.mem_range.mp h2.1, ⟨c, h2.2⟩, [], (List.append_nil _).symm, Nat.succ_pos f, fun i hi => absurd hi (List.not_mem_nil)⟩
    · obtain ⟨i, h1, h2⟩ := List.mem_flatMap.mp h
      by_cases e : p3 i = c
      · rw [if_pos e] at h2
        obtain ⟨a1, a2, w', a3, a4, a5⟩ := ih _ _ _ h2
        refine ⟨a1, a2, i :: w', by rw [a3, List.append_assoc]; rfl, by rw [List.length_cons]; omega, fun j hj => ?_⟩
        rcases List.mem_cons.mp hj with rfl | hj
        · exact List.mem_range.mp h1
        · exact a5 j hj
      · rw [if_neg e] at h2
        exact absurd h2 (List.not_mem_nil)
theorem dO_mem {np : Nat} {Q : Nat → Nat → Bool} {c : Nat} {w : List Nat} {q : List Nat × Nat} (h : q ∈ dO np Q c w) : q.2 < np ∧ Q c q.2 = true ∧ q.1 = w := by
  obtain ⟨p, h1, rfl⟩ := List.mem_map.mp h
  have h2 := List.mem_filter.mp h1
  exact ⟨List.mem_range.mp h2.1, h2.2, rfl⟩
/-- corners go not too far -/
def coB (np : Nat) (R : Nat → Bool) (sz : Nat → Nat) (X Y : Nat → Nat → Int) : Prop := ∀ p, p < np → R p = true → ∀ i, i < sz p → (-10000 ≤ X p i ∧ X p i ≤ 10000) ∧ -10000 ≤ Y p i ∧ Y p i ≤ 10000
theorem cor_b {mp : Nat → mvT} {sz : Nat → Nat} {X Y : Nat → Nat → Int} {np pl : Nat} {R : Nat → Bool} (hC : coB np R sz X Y) (hM : ∀ i, i < pl → mvB mp i) {q : List Nat × Nat} (h1 : q.2 < np) (h2 : R q.2 = true) (h3 : q.1.length < 16) (h4 : ∀ i, i ∈ q.1 → i < pl) : cbd (cor mp X Y q) (sz q.2) := by
  intro i hi
  have a := hC q.2 h1 h2 i hi
  have b := mvW_b q.1.length q.1 rfl (fun j hj => hM j (h4 j hj))
  have c := mvA_b (M := mvW mp q.1) (p := (X q.2 i, Y q.2 i)) (A := 10000) (B := 150000) a.1 a.2 (by omega) (by omega)
  show (_ ≤ (mvA (mvW mp q.1) (X q.2 i, Y q.2 i)).1 ∧ (mvA (mvW mp q.1) (X q.2 i, Y q.2 i)).1 ≤ _) ∧ _ ≤ (mvA (mvW mp q.1) (X q.2 i, Y q.2 i)).2 ∧ (mvA (mvW mp q.1) (X q.2 i, Y q.2 i)).2 ≤ _
  omega
theorem dQ_R {R : Nat → Bool} {hm : Nat → Nat} {ly : Nat → Int32} {kd : Nat} {l1 l2 : Int32} {c p : Nat} (h : dQ R hm ly kd l1 l2 c p = true) : R p = true := (dQ_iff.mp h).1
theorem getD_mem {α : Type} {l : List α} {i : Nat} (d : α) (h : i < l.length) : l.getD i d ∈ l := by
  rw [List.getD_eq_getElem?_getD, List.getElem?_eq_getElem h]
  exact List.getElem_mem h
theorem dS_hS {mp : Nat → mvT} {sz : Nat → Nat} {X Y : Nat → Nat → Int} {np pl : Nat} {R : Nat → Bool} (hC : coB np R sz X Y) (hM : ∀ i, i < pl → mvB mp i) {hm p3 p4 : Nat → Nat} {ly : Nat → Int32} {kd : Nat} {l1 l2 : Int32} (c : Nat) : ∀ i, i < (dS np pl (dQ R hm ly kd l1 l2) p3 p4 16 c []).length → ((dS np pl (dQ R hm ly kd l1 l2) p3 p4 16 c []).getD i ([], 0)).2 < np ∧ R ((dS np pl (dQ R hm ly kd l1 l2) p3 p4 16 c []).getD i ([], 0)).2 = true ∧ cbd (cor mp X Y ((dS np pl (dQ R hm ly kd l1 l2) p3 p4 16 c []).getD i ([], 0))) (sz ((dS np pl (dQ R hm ly kd l1 l2) p3 p4 16 c []).getD i ([], 0)).2) := by
  intro i hi
  obtain ⟨a1, ⟨d, a2⟩, w', a3, a4, a5⟩ := dS_mem 16 c [] _ (getD_mem ([], 0) hi)
  have e : ((dS np pl (dQ R hm ly kd l1 l2) p3 p4 16 c []).getD i ([], 0)).1 = w' := a3
  exact ⟨a1, dQ_R a2, cor_b hC hM a1 (dQ_R a2) (by rw [e]; exact a4) (by rw [e]; exact a5)⟩
theorem dO_hS {mp : Nat → mvT} {sz : Nat → Nat} {X Y : Nat → Nat → Int} {np : Nat} {R : Nat → Bool} (hC : coB np R sz X Y) {hm : Nat → Nat} {ly : Nat → Int32} {kd : Nat} {l1 l2 : Int32} (c : Nat) : ∀ i, i < (dO np (dQ R hm ly kd l1 l2) c []).length → ((dO np (dQ R hm ly kd l1 l2) c []).getD i ([], 0)).2 < np ∧ R ((dO np (dQ R hm ly kd l1 l2) c []).getD i ([], 0)).2 = true ∧ cbd (cor mp X Y ((dO np (dQ R hm ly kd l1 l2) c []).getD i ([], 0))) (sz ((dO np (dQ R hm ly kd l1 l2) c []).getD i ([], 0)).2) := by
  intro i hi
  obtain ⟨a1, a2, a3⟩ := dO_mem (getD_mem ([], 0) hi)
  refine ⟨a1, dQ_R a2, cor_b (pl := 0) hC (fun i hi => absurd hi (Nat.not_lt_zero i)) a1 (dQ_R a2) (by rw [a3]; decide) (by rw [a3]; exact fun i hi => absurd hi (List.not_mem_nil))⟩
/-- a cell in another one has no more than it -/
theorem oc_sub {np pl : Nat} {R : Nat → Bool} {hm p3 p4 : Nat → Nat} {i : Nat} (hi : i < pl) (r : Nat) : oc_n np pl R hm p3 p4 r (p4 i) ≤ oc_n np pl R hm p3 p4 (r + 1) (p3 i) := by
  have key : ∀ n, i < n → oc_n np pl R hm p3 p4 r (p4 i) ≤ oc_s p3 p4 (oc_n np pl R hm p3 p4 r) (p3 i) n := by
    intro n
    induction n with
    | zero => intro h; exact absurd h (Nat.not_lt_zero i)
    | succ n ih =>
      intro h
      by_cases e : p3 n = p3 i
      · rw [oc_s1 e]
        by_cases g : i = n
        · rw [g]; omega
        · have := ih (by omega); omega
      · rw [oc_s0 e]
        by_cases g : i = n
        · rw [g] at e; exact absurd rfl e
        · exact ih (by omega)
  have := key pl hi
  show _ ≤ oc_w R hm (p3 i) np + oc_s p3 p4 (oc_n np pl R hm p3 p4 r) (p3 i) pl
  omega
theorem oc_in {nc np pl : Nat} {R : Nat → Bool} {hm p3 p4 rk : Nat → Nat} (hr : ∀ i, i < pl → rk (p4 i) < rk (p3 i)) (hrk : ∀ c, c < nc → rk c < nc) (hp : ∀ i, i < pl → p3 i < nc ∧ p4 i < nc) {c d : Nat} (h : gr_R pl p3 p4 c d) : oc_n np pl R hm p3 p4 nc d ≤ oc_n np pl R hm p3 p4 nc c := by
  refine h (fun d => oc_n np pl R hm p3 p4 nc d ≤ oc_n np pl R hm p3 p4 nc c) (Nat.le_refl _) (fun i hi h2 => ?_)
  have a := oc_sub (np := np) (R := R) (hm := hm) (p3 := p3) (p4 := p4) hi nc
  have b := oc_rk (np := np) (R := R) (hm := hm) hr nc (p3 i) (hrk _ (hp i hi).1) (nc + 1) (by omega)
  omega
theorem oc_N {nc np pl : Nat} {R : Nat → Bool} {hm p3 p4 rk : Nat → Nat} (hr : ∀ i, i < pl → rk (p4 i) < rk (p3 i)) (hrk : ∀ c, c < nc → rk c < nc) : ∀ r c, r ≤ 16 → c < nc → oc_n np pl R hm p3 p4 r c ≤ oc_n np pl R hm p3 p4 nc c := by
  intro r c _ hc
  by_cases e : r ≤ nc
  · exact oc_mono2 e
  · exact Nat.le_of_eq (oc_rk (np := np) (R := R) (hm := hm) hr nc c (hrk c hc) r (by omega))
