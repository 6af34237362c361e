theorem iwX10_sort_X10 : ∀ w ∈ wsX100, w ∈ wsX10_sort := by decide +kernel
set_option maxRecDepth 20000 in
theorem ggX10_sort_X10_merge : GoodIn wsX10_sort wsX10_merge := goodIn_r _ [12, 7, 6, 13, 14, 15, 11, 16, 17, 18, 19, 20, 21, 22, 23, 24, 25, 26, 27, 28, 29, 30, 31, 32] (by decide +kernel) (by decide +kernel)
set_option maxRecDepth 20000 in
theorem gX10_sort_X10_merge : GoodIn wsX10_sort (wsV RX10 65 RX10 yX10_merge wsX10_merge) := goodIn_app (goodIn_of _ (by decide +kernel)) ggX10_sort_X10_merge
theorem dX10_sort_0 : decode cX10_sort 0 = .ok (.iconst 1, 1) := by decide +kernel
theorem dX10_sort_1 : decode cX10_sort 1 = .ok (.istore_n 2, 1) := by decide +kernel
theorem dX10_sort_2 : decode cX10_sort 2 = .ok (.iload_n 2, 1) := by decide +kernel
theorem dX10_sort_3 : decode cX10_sort 3 = .ok (.aload_n 0, 1) := by decide +kernel
theorem dX10_sort_4 : decode cX10_sort 4 = .ok (.getfield 24, 3) := by decide +kernel
theorem dX10_sort_7 : decode cX10_sort 7 = .ok (.if_icmp .ge 78, 3) := by decide +kernel
theorem dX10_sort_10 : decode cX10_sort 10 = .ok (.iconst 0, 1) := by decide +kernel
theorem dX10_sort_11 : decode cX10_sort 11 = .ok (.istore_n 3, 1) := by decide +kernel
theorem dX10_sort_12 : decode cX10_sort 12 = .ok (.iload_n 3, 1) := by decide +kernel
theorem dX10_sort_13 : decode cX10_sort 13 = .ok (.aload_n 0, 1) := by decide +kernel
theorem dX10_sort_14 : decode cX10_sort 14 = .ok (.getfield 24, 3) := by decide +kernel
theorem dX10_sort_17 : decode cX10_sort 17 = .ok (.if_icmp .ge 43, 3) := by decide +kernel
theorem dX10_sort_20 : decode cX10_sort 20 = .ok (.iload_n 3, 1) := by decide +kernel
theorem dX10_sort_21 : decode cX10_sort 21 = .ok (.iload_n 2, 1) := by decide +kernel
theorem dX10_sort_22 : decode cX10_sort 22 = .ok (.iadd, 1) := by decide +kernel
theorem dX10_sort_23 : decode cX10_sort 23 = .ok (.aload_n 0, 1) := by decide +kernel
theorem dX10_sort_24 : decode cX10_sort 24 = .ok (.getfield 24, 3) := by decide +kernel
theorem dX10_sort_27 : decode cX10_sort 27 = .ok (.invokestatic 53, 3) := by decide +kernel
theorem dX10_sort_30 : decode cX10_sort 30 = .ok (.istore 4, 2) := by decide +kernel
theorem dX10_sort_32 : decode cX10_sort 32 = .ok (.aload_n 0, 1) := by decide +kernel
theorem dX10_sort_33 : decode cX10_sort 33 = .ok (.iload_n 3, 1) := by decide +kernel
theorem dX10_sort_34 : decode cX10_sort 34 = .ok (.iload 4, 2) := by decide +kernel
theorem dX10_sort_36 : decode cX10_sort 36 = .ok (.iload 4, 2) := by decide +kernel
theorem dX10_sort_38 : decode cX10_sort 38 = .ok (.iload_n 2, 1) := by decide +kernel
theorem dX10_sort_39 : decode cX10_sort 39 = .ok (.iadd, 1) := by decide +kernel
theorem dX10_sort_40 : decode cX10_sort 40 = .ok (.aload_n 0, 1) := by decide +kernel
theorem dX10_sort_41 : decode cX10_sort 41 = .ok (.getfield 24, 3) := by decide +kernel
theorem dX10_sort_44 : decode cX10_sort 44 = .ok (.invokestatic 53, 3) := by decide +kernel
theorem dX10_sort_47 : decode cX10_sort 47 = .ok (.iload_n 1, 1) := by decide +kernel
theorem dX10_sort_48 : decode cX10_sort 48 = .ok (.invokevirtual 65, 3) := by decide +kernel
theorem dX10_sort_51 : decode cX10_sort 51 = .ok (.iload_n 3, 1) := by decide +kernel
theorem dX10_sort_52 : decode cX10_sort 52 = .ok (.iconst 2, 1) := by decide +kernel
theorem dX10_sort_53 : decode cX10_sort 53 = .ok (.iload_n 2, 1) := by decide +kernel
theorem dX10_sort_54 : decode cX10_sort 54 = .ok (.imul, 1) := by decide +kernel
theorem dX10_sort_55 : decode cX10_sort 55 = .ok (.iadd, 1) := by decide +kernel
theorem dX10_sort_56 : decode cX10_sort 56 = .ok (.istore_n 3, 1) := by decide +kernel
theorem dX10_sort_57 : decode cX10_sort 57 = .ok (.goto (-45), 3) := by decide +kernel
theorem dX10_sort_60 : decode cX10_sort 60 = .ok (.aload_n 0, 1) := by decide +kernel
theorem dX10_sort_61 : decode cX10_sort 61 = .ok (.getfield 13, 3) := by decide +kernel
theorem dX10_sort_64 : decode cX10_sort 64 = .ok (.astore_n 3, 1) := by decide +kernel
theorem dX10_sort_65 : decode cX10_sort 65 = .ok (.aload_n 0, 1) := by decide +kernel
theorem dX10_sort_66 : decode cX10_sort 66 = .ok (.aload_n 0, 1) := by decide +kernel
theorem dX10_sort_67 : decode cX10_sort 67 = .ok (.getfield 17, 3) := by decide +kernel
theorem dX10_sort_70 : decode cX10_sort 70 = .ok (.putfield 13, 3) := by decide +kernel
theorem dX10_sort_73 : decode cX10_sort 73 = .ok (.aload_n 0, 1) := by decide +kernel
theorem dX10_sort_74 : decode cX10_sort 74 = .ok (.aload_n 3, 1) := by decide +kernel
theorem dX10_sort_75 : decode cX10_sort 75 = .ok (.putfield 17, 3) := by decide +kernel
theorem dX10_sort_78 : decode cX10_sort 78 = .ok (.iload_n 2, 1) := by decide +kernel
theorem dX10_sort_79 : decode cX10_sort 79 = .ok (.iconst 2, 1) := by decide +kernel
theorem dX10_sort_80 : decode cX10_sort 80 = .ok (.imul, 1) := by decide +kernel
theorem dX10_sort_81 : decode cX10_sort 81 = .ok (.istore_n 2, 1) := by decide +kernel
theorem dX10_sort_82 : decode cX10_sort 82 = .ok (.goto (-80), 3) := by decide +kernel
theorem dX10_sort_85 : decode cX10_sort 85 = .ok (.return_, 1) := by decide +kernel

abbrev mX10_sort : sv_M := (cX10_sort, 5, yX10_sort, wsX10_sort, none, { frames := 6, cells := 0, slots := 0, locals := 180 }, [])
theorem l64_tri (a b : Int64) : a < b ∨ a = b ∨ b < a := by
  rw [Int64.lt_iff_toInt_lt, Int64.lt_iff_toInt_lt, ← Int64.toInt_inj]
  omega
/-- runs, all but the last one as long as w; pairs of them merged -/
def rnW (w : Nat) : List (List (List Int64)) → Prop
  | [] => True
  | [a] => 0 < a.length ∧ a.length ≤ w
  | a :: b :: r => a.length = w ∧ rnW w (b :: r)
def mgP (le : List Int64 → List Int64 → Bool) : List (List (List Int64)) → List (List (List Int64))
  | [] => []
  | [a] => [a]
  | a :: b :: r => List.merge a b le :: mgP le r
theorem mgP_len (le : List Int64 → List Int64 → Bool) : ∀ (n : Nat) (R : List (List (List Int64))), R.length ≤ n → 2 * (mgP le R).length ≤ R.length + 1 := by
  intro n
  induction n using Nat.strongRecOn with
  | ind n ih =>
    intro R hR
    match R, hR with
    | [], _ => exact Nat.zero_le _
    | [a], _ => exact Nat.le_refl 2
    | a :: b :: r, hR =>
      rw [List.length_cons, List.length_cons] at hR
      have := ih (n - 2) (by omega) r (by omega)
      show 2 * ((mgP le r).length + 1) ≤ r.length + 1 + 1 + 1
      omega
theorem mgP_perm (le : List Int64 → List Int64 → Bool) : ∀ (n : Nat) (R : List (List (List Int64))), R.length ≤ n → (mgP le R).flatten.Perm R.flatten := by
  intro n
  induction n using Nat.strongRecOn with
  | ind n ih =>
    intro R hR
    match R, hR with
    | [], _ => exact List.Perm.refl _
    | [a], _ => exact List.Perm.refl _
    | a :: b :: r, hR =>
      rw [List.length_cons, List.length_cons] at hR
      have := ih (n - 2) (by omega) r (by omega)
      show (List.merge a b le ++ (mgP le r).flatten).Perm (a ++ (b ++ r.flatten))
      rw [← List.append_assoc]
      exact (List.merge_perm_append le).append this
theorem rnW_tail {w : Nat} {a : List (List Int64)} : ∀ {r : List (List (List Int64))}, rnW w (a :: r) → rnW w r := by
  intro r h
  match r, h with
  | [], _ => trivial
  | b :: r, h => exact h.2
theorem mgP_w (le : List Int64 → List Int64 → Bool) (w : Nat) : ∀ (n : Nat) (R : List (List (List Int64))), R.length ≤ n → rnW w R → rnW (2 * w) (mgP le R) := by
  intro n
  induction n using Nat.strongRecOn with
  | ind n ih =>
    intro R hR h
    match R, hR, h with
    | [], _, _ => trivial
    | [a], _, h => exact ⟨h.1, by have := h.2; omega⟩
    | [a, b], _, h =>
      have h1 : a.length = w := h.1
      have h2 : 0 < b.length ∧ b.length ≤ w := h.2
      exact ⟨by rw [List.length_merge]; omega, by rw [List.length_merge]; omega⟩
    | a :: b :: c :: r, hR, h =>
      rw [List.length_cons, List.length_cons] at hR
      have q := ih (n - 2) (by omega) (c :: r) (by omega) h.2.2
      have h1 : a.length = w := h.1
      have h2 : b.length = w := h.2.1
      have e : (List.merge a b le).length = 2 * w := by rw [List.length_merge]; omega
      match r, q with
      | [], q => exact ⟨e, q⟩
      | d :: r, q => exact ⟨e, q⟩
def rnS (le : List Int64 → List Int64 → Bool) (R : List (List (List Int64))) : Prop := ∀ a, a ∈ R → a.Pairwise (fun x y => le x y = true)
theorem mgP_s {le : List Int64 → List Int64 → Bool} (tr : ∀ a b c, le a b = true → le b c = true → le a c = true) (to : ∀ a b, (le a b || le b a) = true) : ∀ (n : Nat) (R : List (List (List Int64))), R.length ≤ n → rnS le R → rnS le (mgP le R) := by
  intro n
  induction n using Nat.strongRecOn with
  | ind n ih =>
    intro R hR h
    match R, hR, h with
    | [], _, h => exact h
    | [a], _, h => exact h
    | a :: b :: r, hR, h =>
      rw [List.length_cons, List.length_cons] at hR
      have q := ih (n - 2) (by omega) r (by omega) (fun x hx => h x (List.mem_cons_of_mem _ (List.mem_cons_of_mem _ hx)))
      intro x hx
      rcases List.mem_cons.mp hx with rfl | hx
      · exact List.pairwise_merge tr to _ _ (h a (List.mem_cons_self)) (h b (List.mem_cons_of_mem _ (List.mem_cons_self)))
      · exact q x hx
theorem lexC_le {r s : List Int64} {n i : Nat} : lexC r s i (n + 1) ≤ 0 ↔ (r.getD i 0 < s.getD i 0 ∨ (r.getD i 0 = s.getD i 0 ∧ lexC r s (i + 1) n ≤ 0)) := by
  show (if _ then _ else _) ≤ _ ↔ _
  by_cases e : r.getD i 0 = s.getD i 0
  · rw [if_pos e]
    exact ⟨fun h => Or.inr ⟨e, h⟩, fun h => h.elim (fun q => absurd q (by rw [e]; exact Int64.lt_irrefl)) (fun q => q.2)⟩
  · rw [if_neg e]
    by_cases l : r.getD i 0 < s.getD i 0
    · rw [if_pos l]; exact ⟨fun _ => Or.inl l, fun _ => by decide⟩
    · rw [if_neg l]; exact ⟨fun h => absurd h (by decide), fun h => h.elim (fun q => absurd q l) (fun q => absurd q.1 e)⟩
theorem lexC_tr {a b c : List Int64} : ∀ n i, lexC a b i n ≤ 0 → lexC b c i n ≤ 0 → lexC a c i n ≤ 0 := by
  intro n
  induction n with
  | zero => intro i _ _; exact (by decide : (0 : Int32) ≤ 0)
  | succ n ih =>
    intro i h1 h2
    rw [lexC_le] at h1 h2 ⊢
    rcases h1 with h1 | ⟨h1, k1⟩ <;> rcases h2 with h2 | ⟨h2, k2⟩
    · exact Or.inl (Int64.lt_trans h1 h2)
    · exact Or.inl (h2 ▸ h1)
    · exact Or.inl (h1 ▸ h2)
    · exact Or.inr ⟨h1.trans h2, ih (i + 1) k1 k2⟩
theorem lexC_to (a b : List Int64) : ∀ n i, lexC a b i n ≤ 0 ∨ lexC b a i n ≤ 0 := by
  intro n
  induction n with
  | zero => intro i; exact Or.inl (by decide : (0 : Int32) ≤ 0)
  | succ n ih =>
    intro i
    rw [lexC_le, lexC_le]
    rcases l64_tri (a.getD i 0) (b.getD i 0) with h | h | h
    · exact Or.inl (Or.inl h)
    · exact (ih (i + 1)).elim (fun q => Or.inl (Or.inr ⟨h, q⟩)) (fun q => Or.inr (Or.inr ⟨h.symm, q⟩))
    · exact Or.inr (Or.inl h)
theorem lexC_an {a b : List Int64} : ∀ n i, lexC a b i n ≤ 0 → lexC b a i n ≤ 0 → ∀ j, i ≤ j → j < i + n → a.getD j 0 = b.getD j 0 := by
  intro n
  induction n with
  | zero => intro i _ _ j h1 h2; omega
  | succ n ih =>
    intro i h1 h2 j h3 h4
    rw [lexC_le] at h1 h2
    rcases h1 with h1 | ⟨h1, k1⟩ <;> rcases h2 with h2 | ⟨h2, k2⟩
    · exact absurd (Int64.lt_trans h1 h2) (Int64.lt_irrefl)
    · exact absurd h1 (by rw [h2]; exact Int64.lt_irrefl)
    · exact absurd h2 (by rw [h1]; exact Int64.lt_irrefl)
    · by_cases e : j = i
      · rw [e]; exact h1
      · exact ih (i + 1) k1 k2 j (by omega) (by omega)
theorem cmpR_le {bc : Bool} {r s : List Int64} : cmpR bc r s ≤ 0 ↔ ((bc = true ∧ r.getD 7 0 < s.getD 7 0) ∨ ((bc = true → r.getD 7 0 = s.getD 7 0) ∧ lexC r s 0 12 ≤ 0)) := by
  unfold cmpR
  by_cases e : bc = true ∧ ¬ r.getD 7 0 = s.getD 7 0
  · rw [if_pos e]
    by_cases l : r.getD 7 0 < s.getD 7 0
    · rw [if_pos l]; exact ⟨fun _ => Or.inl ⟨e.1, l⟩, fun _ => by decide⟩
    · rw [if_neg l]; exact ⟨fun h => absurd h (by decide), fun h => h.elim (fun q => absurd q.2 l) (fun q => absurd (q.1 e.1) e.2)⟩
  · rw [if_neg e]
    refine ⟨fun h => Or.inr ⟨fun hb => Decidable.byContradiction fun q => e ⟨hb, q⟩, h⟩, fun h => h.elim (fun q => absurd ⟨q.1, fun w => absurd q.2 (by rw [w]; exact Int64.lt_irrefl)⟩ e) (fun q => q.2)⟩
theorem leR_tr (bc : Bool) : ∀ a b c, leR bc a b = true → leR bc b c = true → leR bc a c = true := by
  intro a b c h1 h2
  have h1 := cmpR_le.mp (of_decide_eq_true h1)
  have h2 := cmpR_le.mp (of_decide_eq_true h2)
  refine decide_eq_true (cmpR_le.mpr ?_)
  rcases h1 with ⟨b1, h1⟩ | ⟨h1, k1⟩ <;> rcases h2 with ⟨b2, h2⟩ | ⟨h2, k2⟩
  · exact Or.inl ⟨b1, Int64.lt_trans h1 h2⟩
  · exact Or.inl ⟨b1, (h2 b1) ▸ h1⟩
  · exact Or.inl ⟨b2, (h1 b2) ▸ h2⟩
  · exact Or.inr ⟨fun hb => (h1 hb).trans (h2 hb), lexC_tr 12 0 k1 k2⟩
theorem leR_to (bc : Bool) : ∀ a b, (leR bc a b || leR bc b a) = true := by
  intro a b
  rw [Bool.or_eq_true]
  have key : cmpR bc a b ≤ 0 ∨ cmpR bc b a ≤ 0 := by
    rw [cmpR_le, cmpR_le]
    by_cases hb : bc = true
    · rcases l64_tri (a.getD 7 0) (b.getD 7 0) with h | h | h
      · exact Or.inl (Or.inl ⟨hb, h⟩)
      · exact (lexC_to a b 12 0).elim (fun q => Or.inl (Or.inr ⟨fun _ => h, q⟩)) (fun q => Or.inr (Or.inr ⟨fun _ => h.symm, q⟩))
      · exact Or.inr (Or.inl ⟨hb, h⟩)
    · exact (lexC_to a b 12 0).elim (fun q => Or.inl (Or.inr ⟨fun e => absurd e hb, q⟩)) (fun q => Or.inr (Or.inr ⟨fun e => absurd e hb, q⟩))
  exact key.elim (fun q => Or.inl (decide_eq_true q)) (fun q => Or.inr (decide_eq_true q))
/-- rows that neither stands before the other are the same in all columns -/
theorem leR_an {bc : Bool} {a b : List Int64} (h1 : leR bc a b = true) (h2 : leR bc b a = true) : ∀ j, j < 12 → a.getD j 0 = b.getD j 0 := by
  have h1 := cmpR_le.mp (of_decide_eq_true h1)
  have h2 := cmpR_le.mp (of_decide_eq_true h2)
  rcases h1 with ⟨b1, h1⟩ | ⟨h1, k1⟩ <;> rcases h2 with ⟨b2, h2⟩ | ⟨h2, k2⟩
  · exact absurd (Int64.lt_trans h1 h2) (Int64.lt_irrefl)
  · exact absurd h1 (by rw [h2 b1]; exact Int64.lt_irrefl)
  · exact absurd h2 (by rw [h1 b2]; exact Int64.lt_irrefl)
  · exact fun j hj => lexC_an 12 0 k1 k2 j (Nat.zero_le _) (by omega)
