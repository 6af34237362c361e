theorem row_x {a c : List Int64} (h1 : a.length = 12) (h2 : c.length = 12) (h : ∀ j, j < 12 → a.getD j 0 = c.getD j 0) : a = c := by
  refine List.ext_getElem (h1.trans h2.symm) (fun j q1 q2 => ?_)
  have k := h j (by omega)
  rw [List.getD_eq_getElem?_getD, List.getD_eq_getElem?_getD, List.getElem?_eq_getElem q1, List.getElem?_eq_getElem q2] at k
  exact k
/-- in order there is one list only -/
theorem sr_u (bc : Bool) : ∀ L1 L2 : List (List Int64), L1.Perm L2 → L1.Pairwise (fun x y => leR bc x y = true) → L2.Pairwise (fun x y => leR bc x y = true) → (∀ x, x ∈ L1 → x.length = 12) → L1 = L2
  | [], L2, hp, _, _, _ => (hp.nil_eq)
  | a :: L1, [], hp, _, _, _ => absurd hp.length_eq (by simp)
  | a :: L1, c :: L2, hp, h1, h2, hl => by
    rw [List.pairwise_cons] at h1 h2
    have ha : a ∈ c :: L2 := hp.mem_iff.mp (List.mem_cons_self)
    have hc : c ∈ a :: L1 := hp.mem_iff.mpr (List.mem_cons_self)
    have e : a = c := by
      rcases List.mem_cons.mp ha with e | ha
      · exact e
      · rcases List.mem_cons.mp hc with e | hc
        · exact e.symm
        · exact row_x (hl a (List.mem_cons_self)) (hl c (List.mem_cons_of_mem _ hc)) (leR_an (h1.1 c hc) (h2.1 a ha))
    subst e
    rw [sr_u bc L1 L2 (List.Perm.cons_inv hp) h1.2 h2.2 (fun x hx => hl x (List.mem_cons_of_mem _ hx))]
theorem rg_gm {α : Type} (d : α) : ∀ E : List α, (List.range E.length).map (fun i => E.getD i d) = E
  | [] => rfl
  | x :: E => by
    show (List.range (E.length + 1)).map _ = _
    rw [List.range_succ_eq_map, List.map_cons, List.map_map]
    show x :: (List.range E.length).map (fun i => E.getD i d) = x :: E
    rw [rg_gm d E]
theorem rg_fl {α : Type} (d : α) (P : α → Bool) (E : List α) : ((List.range E.length).filter (fun x => P (E.getD x d))).map (fun i => E.getD i d) = E.filter P := by
  have h := congrArg (List.filter P) (rg_gm d E)
  rw [List.filter_map] at h
  exact h
theorem lexC_0 (r s : List Int64) : ∀ n i, lexC r s i n = 0 ↔ ∀ j, i ≤ j → j < i + n → r.getD j 0 = s.getD j 0
  | 0, i => ⟨fun _ j h1 h2 => absurd h2 (by omega), fun _ => rfl⟩
  | n + 1, i => by
    have ih := lexC_0 r s n (i + 1)
    show (if r.getD i 0 = s.getD i 0 then lexC r s (i + 1) n else if r.getD i 0 < s.getD i 0 then -1 else 1) = 0 ↔ _
    by_cases e : r.getD i 0 = s.getD i 0
    · rw [if_pos e, ih]
      refine ⟨fun h j h1 h2 => ?_, fun h j h1 h2 => h j (by omega) (by omega)⟩
      by_cases e2 : j = i
      · rw [e2]; exact e
      · exact h j (by omega) (by omega)
    · rw [if_neg e]
      refine ⟨fun h => ?_, fun h => absurd (h i (Nat.le_refl i) (by omega)) e⟩
      split at h
      · exact absurd h (by decide)
      · exact absurd h (by decide)
theorem leR_e {bc : Bool} {r s : List Int64} (h : ∀ j, j < 12 → r.getD j 0 = s.getD j 0) : leR bc r s = true := by
  unfold leR cmpR
  rw [if_neg (fun q => q.2 (h 7 (by decide))), (lexC_0 r s 12 0).mpr (fun j _ h2 => h j (by omega))]; rfl
theorem ddI_f (E : List (List Int64)) (ix : List Nat) : ∀ k, k ≤ ix.length → ddI false E ix k = ix.take k
  | 0, _ => List.take_zero.symm
  | k + 1, hk => by
    show (if false = true ∧ _ then _ else ddI false E ix k ++ [ix.getD k 0]) = _
    rw [if_neg (fun q => absurd q.1 (by decide)), ddI_f E ix k (by omega), List.take_succ, List.getD_eq_getElem?_getD, List.getElem?_eq_getElem (by omega)]; rfl
theorem ddI_t (bc : Bool) (E : List (List Int64)) (ix : List Nat) : ∀ k, k ≤ ix.length → ∀ x, x ∈ ddI bc E ix k → ∃ j, j < k ∧ ix.getD j 0 = x
  | 0, _, x, h => absurd h (List.not_mem_nil)
  | k + 1, hk, x, h => by
    have ih := ddI_t bc E ix k (by omega) x
    have h : x ∈ (if _ then _ else _ : List Nat) := h
    split at h
    · obtain ⟨j, a, c⟩ := ih h; exact ⟨j, by omega, c⟩
    · rcases List.mem_append.mp h with h | h
      · obtain ⟨j, a, c⟩ := ih h; exact ⟨j, by omega, c⟩
      · exact ⟨k, by omega, (List.mem_singleton.mp h).symm⟩
theorem gD_mp {f : Nat → List Int64} {l : List Nat} {j : Nat} (h : j < l.length) : (l.map f).getD j [] = f (l.getD j 0) := by
  rw [List.getD_eq_getElem?_getD, List.getD_eq_getElem?_getD, List.getElem?_map, List.getElem?_eq_getElem h]; rfl
/-- told again: both alike -/
theorem dd_e (E : List (List Int64)) (ix : List Nat) (hs : srt true E ix) : ∀ k, k ≤ ix.length → (ddI true E ix k).map (fun i => E.getD i []) = ddN (ix.map (fun i => E.getD i [])) k
  | 0, _ => rfl
  | k + 1, hk => by
    have ih := dd_e E ix hs k (by omega)
    have hl : (ddN (ix.map (fun i => E.getD i [])) k).length = (ddI true E ix k).length := by rw [← ih, List.length_map]
    have hL : (ix.map (fun i => E.getD i [])).getD k [] = E.getD (ix.getD k 0) [] := gD_mp (by omega)
    show (if true = true ∧ (ddI true E ix k).length ≠ 0 ∧ leR true (E.getD (ix.getD k 0) []) (E.getD ((ddI true E ix k).getD ((ddI true E ix k).length - 1) 0) []) = true then ddI true E ix k else ddI true E ix k ++ [ix.getD k 0]).map _ = (if (ddN (ix.map (fun i => E.getD i [])) k).length ≠ 0 ∧ cmpR false ((ddN (ix.map (fun i => E.getD i [])) k).getD ((ddN (ix.map (fun i => E.getD i [])) k).length - 1) []) ((ix.map (fun i => E.getD i [])).getD k []) = 0 then ddN (ix.map (fun i => E.getD i [])) k else ddN (ix.map (fun i => E.getD i [])) k ++ [(ix.map (fun i => E.getD i [])).getD k []])
    have iff : (true = true ∧ (ddI true E ix k).length ≠ 0 ∧ leR true (E.getD (ix.getD k 0) []) (E.getD ((ddI true E ix k).getD ((ddI true E ix k).length - 1) 0) []) = true) ↔ ((ddN (ix.map (fun i => E.getD i [])) k).length ≠ 0 ∧ cmpR false ((ddN (ix.map (fun i => E.getD i [])) k).getD ((ddN (ix.map (fun i => E.getD i [])) k).length - 1) []) ((ix.map (fun i => E.getD i [])).getD k []) = 0) := by
      rw [hl, hL]
      by_cases e0 : (ddI true E ix k).length = 0
      · exact ⟨fun q => absurd e0 q.2.1, fun q => absurd e0 q.1⟩
      have el : (ddN (ix.map (fun i => E.getD i [])) k).getD ((ddI true E ix k).length - 1) [] = E.getD ((ddI true E ix k).getD ((ddI true E ix k).length - 1) 0) [] := by
        rw [← ih]; exact gD_mp (by omega)
      rw [el]
      have hm : (ddI true E ix k).getD ((ddI true E ix k).length - 1) 0 ∈ ddI true E ix k := getD_mem 0 (by omega)
      obtain ⟨j, hj, hx⟩ := ddI_t true E ix k (by omega) _ hm
      have le1 : leR true (E.getD ((ddI true E ix k).getD ((ddI true E ix k).length - 1) 0) []) (E.getD (ix.getD k 0) []) = true := by
        have q := List.pairwise_iff_getElem.mp hs j k (by rw [List.length_map]; omega) (by rw [List.length_map]; omega) hj
        rw [List.getElem_map, List.getElem_map] at q
        have e1 : ix[j]'(by omega) = ix.getD j 0 := by rw [List.getD_eq_getElem?_getD, List.getElem?_eq_getElem (by omega)]; rfl
        have e2 : ix[k]'(by omega) = ix.getD k 0 := by rw [List.getD_eq_getElem?_getD, List.getElem?_eq_getElem (by omega)]; rfl
        rw [e1, e2, hx] at q
        exact q
      constructor
      · intro q
        refine ⟨q.2.1, ?_⟩
        have c := leR_an le1 q.2.2
        unfold cmpR
        rw [if_neg (fun q => absurd q.1 (by decide))]
        exact (lexC_0 _ _ 12 0).mpr (fun j _ h2 => c j (by omega))
      · intro q
        refine ⟨rfl, q.1, leR_e (fun j hj => ?_)⟩
        have c := q.2
        unfold cmpR at c
        rw [if_neg (fun q => absurd q.1 (by decide))] at c
        exact ((lexC_0 _ _ 12 0).mp c j (Nat.zero_le j) (by omega)).symm
    by_cases c : true = true ∧ (ddI true E ix k).length ≠ 0 ∧ leR true (E.getD (ix.getD k 0) []) (E.getD ((ddI true E ix k).getD ((ddI true E ix k).length - 1) 0) []) = true
    · rw [if_pos c, if_pos (iff.mp c), ih]
    · rw [if_neg c, if_neg (fun q => c (iff.mpr q)), List.map_append, ih, hL]; rfl
