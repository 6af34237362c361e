/-- what all pairs of a list tell, each once, the earlier one in front -/
def PS {α β : Type} (h : α → α → List β) : List α → List β
  | [] => []
  | x :: L => L.flatMap (h x) ++ PS h L
theorem fM_p {α β : Type} {f g : α → List β} : ∀ (L : List α), (∀ x, x ∈ L → (f x).Perm (g x)) → (L.flatMap f).Perm (L.flatMap g)
  | [], _ => List.Perm.refl _
  | x :: L, H => by
    rw [List.flatMap_cons, List.flatMap_cons]
    exact (H x (List.mem_cons_self)).append (fM_p L (fun y hy => H y (List.mem_cons_of_mem _ hy)))
theorem fM_e {α β : Type} {f g : α → List β} : ∀ (L : List α), (∀ x, x ∈ L → f x = g x) → L.flatMap f = L.flatMap g
  | [], _ => rfl
  | x :: L, H => by
    rw [List.flatMap_cons, List.flatMap_cons, H x (List.mem_cons_self), fM_e L (fun y hy => H y (List.mem_cons_of_mem _ hy))]
theorem fM_z {α β : Type} {f : α → List β} : ∀ (L : List α), (∀ x, x ∈ L → f x = []) → L.flatMap f = []
  | [], _ => rfl
  | x :: L, H => by
    rw [List.flatMap_cons, H x (List.mem_cons_self), fM_z L (fun y hy => H y (List.mem_cons_of_mem _ hy))]; rfl
/-- sums of two -/
theorem fM_a {α β : Type} (f g : α → List β) : ∀ (L : List α), (L.flatMap (fun x => f x ++ g x)).Perm (L.flatMap f ++ L.flatMap g)
  | [] => List.Perm.refl _
  | x :: L => by
    rw [List.flatMap_cons, List.flatMap_cons, List.flatMap_cons]
    have ih := fM_a f g L
    refine ((List.Perm.refl (f x ++ g x)).append ih).trans ?_
    rw [List.append_assoc, List.append_assoc]
    refine (List.Perm.refl (f x)).append ?_
    rw [← List.append_assoc, ← List.append_assoc]
    exact List.Perm.append List.perm_append_comm (List.Perm.refl _)
theorem fM_m {α β γ : Type} (k : β → γ) (f : α → List β) : ∀ (L : List α), (L.flatMap f).map k = L.flatMap (fun x => (f x).map k)
  | [] => rfl
  | x :: L => by rw [List.flatMap_cons, List.flatMap_cons, List.map_append, fM_m k f L]
theorem fM_c {α β γ : Type} (k : γ → α) (f : α → List β) : ∀ (L : List γ), (L.map k).flatMap f = L.flatMap (fun x => f (k x))
  | [] => rfl
  | x :: L => by rw [List.map_cons, List.flatMap_cons, List.flatMap_cons, fM_c k f L]
theorem fM_f {α β : Type} (P : α → Bool) (f : α → List β) : ∀ (L : List α), (L.filter P).flatMap f = L.flatMap (fun x => if P x = true then f x else [])
  | [] => rfl
  | x :: L => by
    rw [List.flatMap_cons, ← fM_f P f L]
    by_cases e : P x = true
    · rw [List.filter_cons_of_pos e, List.flatMap_cons, if_pos e]
    · rw [List.filter_cons_of_neg e, if_neg e]; rfl
theorem fM_as {α β γ : Type} (f : α → List β) (g : β → List γ) : ∀ (L : List α), (L.flatMap f).flatMap g = L.flatMap (fun x => (f x).flatMap g)
  | [] => rfl
  | x :: L => by rw [List.flatMap_cons, List.flatMap_cons, List.flatMap_append, fM_as f g L]
/-- one sum inside the other -/
theorem fM_x {α β γ : Type} (F : α → β → List γ) : ∀ (A : List α) (B : List β), (A.flatMap (fun x => B.flatMap (fun y => F x y))).Perm (B.flatMap (fun y => A.flatMap (fun x => F x y)))
  | [], B => by
    show List.Perm [] _
    rw [show B.flatMap (fun y => ([] : List α).flatMap (fun x => F x y)) = [] from fM_z B (fun _ _ => rfl)]
  | a :: A, B => by
    rw [List.flatMap_cons]
    have ih := fM_x F A B
    refine ((List.Perm.refl _).append ih).trans ?_
    refine (fM_a (fun y => F a y) (fun y => A.flatMap (fun x => F x y)) B).symm.trans ?_
    exact fM_p B (fun y _ => by rw [List.flatMap_cons])
theorem PS_p {α β : Type} {h g : α → α → List β} : ∀ (L : List α), (∀ x y, x ∈ L → y ∈ L → (h x y).Perm (g x y)) → (PS h L).Perm (PS g L)
  | [], _ => List.Perm.refl _
  | x :: L, H => (fM_p L (fun y hy => H x y (List.mem_cons_self) (List.mem_cons_of_mem _ hy))).append (PS_p L (fun y w hy hw => H y w (List.mem_cons_of_mem _ hy) (List.mem_cons_of_mem _ hw)))
theorem PS_e {α β : Type} {h g : α → α → List β} : ∀ (L : List α), (∀ x y, x ∈ L → y ∈ L → h x y = g x y) → PS h L = PS g L
  | [], _ => rfl
  | x :: L, H => by
    show L.flatMap (h x) ++ PS h L = L.flatMap (g x) ++ PS g L
    rw [fM_e L (fun y hy => H x y (List.mem_cons_self) (List.mem_cons_of_mem _ hy)), PS_e L (fun y w hy hw => H y w (List.mem_cons_of_mem _ hy) (List.mem_cons_of_mem _ hw))]
theorem PS_z {α β : Type} {h : α → α → List β} (L : List α) (H : ∀ x y, x ∈ L → y ∈ L → h x y = []) : PS h L = [] := by
  rw [PS_e (g := fun _ _ => []) L H]
  clear H
  induction L with
  | nil => rfl
  | cons x L ih => show L.flatMap (fun _ => []) ++ PS _ L = []; rw [ih, fM_z L (fun _ _ => rfl)]; rfl
theorem PS_a {α β : Type} (h g : α → α → List β) : ∀ (L : List α), (PS (fun x y => h x y ++ g x y) L).Perm (PS h L ++ PS g L)
  | [] => List.Perm.refl _
  | x :: L => by
    show (L.flatMap (fun y => h x y ++ g x y) ++ PS _ L).Perm ((L.flatMap (h x) ++ PS h L) ++ (L.flatMap (g x) ++ PS g L))
    refine ((fM_a (h x) (g x) L).append (PS_a h g L)).trans ?_
    rw [List.append_assoc, List.append_assoc]
    refine (List.Perm.refl _).append ?_
    rw [← List.append_assoc, ← List.append_assoc]
    exact List.Perm.append List.perm_append_comm (List.Perm.refl _)
theorem pm_4 {β : Type} (a b p x q : List β) : ((a ++ b) ++ (p ++ (x ++ q))).Perm ((a ++ p) ++ ((b ++ x) ++ q)) := by
  rw [List.append_assoc, List.append_assoc]
  refine (List.Perm.refl a).append ?_
  rw [← List.append_assoc b p, List.append_assoc b x, ← List.append_assoc p b]
  exact List.Perm.append List.perm_append_comm (List.Perm.refl _)
theorem PS_ap {α β : Type} (h : α → α → List β) : ∀ (A B : List α), (PS h (A ++ B)).Perm (PS h A ++ (A.flatMap (fun x => B.flatMap (h x)) ++ PS h B))
  | [], B => List.Perm.refl _
  | x :: A, B => by
    show ((A ++ B).flatMap (h x) ++ PS h (A ++ B)).Perm ((A.flatMap (h x) ++ PS h A) ++ (((x :: A).flatMap (fun x => B.flatMap (h x))) ++ PS h B))
    rw [List.flatMap_append, List.flatMap_cons]
    refine ((List.Perm.refl _).append (PS_ap h A B)).trans ?_
    exact pm_4 _ _ _ _ _
theorem PS_f {α β : Type} {h : α → α → List β} {P : α → Bool} : ∀ (L : List α), (∀ x y, x ∈ L → y ∈ L → ¬ (P x = true ∧ P y = true) → h x y = []) → PS h (L.filter P) = PS h L
  | [], _ => rfl
  | x :: L, H => by
    have ih := PS_f (P := P) L (fun a b ha hb => H a b (List.mem_cons_of_mem _ ha) (List.mem_cons_of_mem _ hb))
    by_cases e : P x = true
    · rw [List.filter_cons_of_pos e]
      show (L.filter P).flatMap (h x) ++ PS h (L.filter P) = L.flatMap (h x) ++ PS h L
      rw [ih, fM_f, fM_e (g := h x) L (fun y hy => by
        by_cases q : P y = true
        · rw [if_pos q]
        · rw [if_neg q, H x y (List.mem_cons_self) (List.mem_cons_of_mem _ hy) (fun r => q r.2)])]
    · rw [List.filter_cons_of_neg e, ih]
      show PS h L = L.flatMap (h x) ++ PS h L
      rw [fM_z L (fun y hy => H x y (List.mem_cons_self) (List.mem_cons_of_mem _ hy) (fun r => e r.1))]; rfl
theorem PS_m {α β γ : Type} (h : α → α → List β) (k : γ → α) : ∀ (L : List γ), PS h (L.map k) = PS (fun x y => h (k x) (k y)) L
  | [] => rfl
  | x :: L => by
    show (L.map k).flatMap (h (k x)) ++ PS h (L.map k) = L.flatMap (fun y => h (k x) (k y)) ++ PS _ L
    rw [fM_c, PS_m h k L]
theorem PS_mm {α β γ : Type} (k : β → γ) (h : α → α → List β) : ∀ (L : List α), (PS h L).map k = PS (fun x y => (h x y).map k) L
  | [] => rfl
  | x :: L => by
    show (L.flatMap (h x) ++ PS h L).map k = L.flatMap (fun y => (h x y).map k) ++ PS _ L
    rw [List.map_append, fM_m, PS_mm k h L]
/-- blocks that tell nothing between them -/
theorem PS_b {α β : Type} (h : α → α → List β) (D : Nat → List α) : ∀ (n : Nat), (∀ i j x y, i < j → j < n → x ∈ D i → y ∈ D j → h x y = []) → (PS h ((List.range n).flatMap D)).Perm ((List.range n).flatMap (fun i => PS h (D i)))
  | 0, _ => List.Perm.refl _
  | n + 1, H => by
    rw [List.range_succ, List.flatMap_append, List.flatMap_append]
    refine (PS_ap h _ _).trans ?_
    have ih := PS_b h D n (fun i j x y q1 q2 => H i j x y q1 (by omega))
    refine ih.append ?_
    rw [show [n].flatMap D = D n by rw [List.flatMap_cons]; exact List.append_nil _, show [n].flatMap (fun i => PS h (D i)) = PS h (D n) by rw [List.flatMap_cons]; exact List.append_nil _, fM_z _ (fun x hx => ?_)]
    · exact List.Perm.refl _
    · obtain ⟨i, hi, hx⟩ := List.mem_flatMap.mp hx
      exact fM_z _ (fun y hy => H i n x y (List.mem_range.mp hi) (Nat.lt_succ_self n) hx hy)
theorem rg_c {β : Type} (F : Nat → List β) (n : Nat) : (List.range (n + 1)).flatMap F = F 0 ++ (List.range n).flatMap (fun i => F (i + 1)) := by
  rw [List.range_succ_eq_map, List.flatMap_cons, fM_c]
theorem rg_g {α β : Type} (d : α) (g : α → List β) : ∀ (L : List α), (List.range L.length).flatMap (fun i => g (L.getD i d)) = L.flatMap g
  | [] => rfl
  | x :: L => by
    show (List.range (L.length + 1)).flatMap _ = _
    rw [rg_c, List.flatMap_cons, ← rg_g d g L]; rfl
/-- pairs by their numbers, the later one in front too -/
theorem PS_ij {α β : Type} (d : α) (a c : α → α → List β) : ∀ (L : List α) (F : Nat → Nat → List β), (∀ i j, i < L.length → j < L.length → F i j = if i < j then a (L.getD i d) (L.getD j d) else if j < i then c (L.getD i d) (L.getD j d) else []) → ((List.range L.length).flatMap (fun i => (List.range L.length).flatMap (fun j => F i j))).Perm (PS (fun x y => a x y ++ c y x) L)
  | [], _, _ => List.Perm.refl _
  | x :: L, F, H => by
    show ((List.range (L.length + 1)).flatMap (fun i => (List.range (L.length + 1)).flatMap (fun j => F i j))).Perm _
    rw [rg_c]
    have h0 : (List.range (L.length + 1)).flatMap (fun j => F 0 j) = L.flatMap (a x) := by
      rw [rg_c, H 0 0 (Nat.succ_pos _) (Nat.succ_pos _), if_neg (by decide), if_neg (by decide), List.nil_append, ← rg_g d (a x) L]
      exact fM_e _ (fun j hj => by
        have hj := List.mem_range.mp hj
        rw [H 0 (j + 1) (Nat.succ_pos _) (Nat.succ_lt_succ hj), if_pos (Nat.succ_pos _)]; rfl)
    have h1 : (List.range L.length).flatMap (fun i => (List.range (L.length + 1)).flatMap (fun j => F (i + 1) j)) = (List.range L.length).flatMap (fun i => c (L.getD i d) x ++ (List.range L.length).flatMap (fun j => F (i + 1) (j + 1))) := fM_e _ (fun i hi => by
      have hi := List.mem_range.mp hi
      rw [rg_c, H (i + 1) 0 (Nat.succ_lt_succ hi) (Nat.succ_pos _), if_neg (by omega), if_pos (Nat.succ_pos _)]; rfl)
    rw [h0, h1]
    refine ((List.Perm.refl _).append (fM_a (fun i => c (L.getD i d) x) (fun i => (List.range L.length).flatMap (fun j => F (i + 1) (j + 1))) (List.range L.length))).trans ?_
    have ih := PS_ij d a c L (fun i j => F (i + 1) (j + 1)) (fun i j hi hj => by
      rw [H (i + 1) (j + 1) (Nat.succ_lt_succ hi) (Nat.succ_lt_succ hj)]
      show (if i + 1 < j + 1 then a (L.getD i d) (L.getD j d) else if j + 1 < i + 1 then c (L.getD i d) (L.getD j d) else []) = _
      by_cases e : i < j
      · rw [if_pos e, if_pos (Nat.succ_lt_succ e)]
      · rw [if_neg e, if_neg (by omega)]
        by_cases e2 : j < i
        · rw [if_pos e2, if_pos (Nat.succ_lt_succ e2)]
        · rw [if_neg e2, if_neg (by omega)])
    rw [rg_g d (fun y => c y x) L, ← List.append_assoc]
    exact ((fM_a (a x) (fun y => c y x) L).symm).append ih
/-- pairs by their numbers, the earlier one in front -/
theorem PS_up {α β : Type} (d : α) (g : α → α → List β) : ∀ (L : List α), (List.range L.length).flatMap (fun i => (List.range (L.length - (i + 1))).flatMap (fun j => g (L.getD i d) (L.getD (i + 1 + j) d))) = PS g L
  | [] => rfl
  | x :: L => by
    show (List.range (L.length + 1)).flatMap _ = L.flatMap (g x) ++ PS g L
    rw [rg_c, ← PS_up d g L, ← rg_g d (g x) L]
    congr 1
    · show (List.range (L.length + 1 - (0 + 1))).flatMap _ = _
      rw [show L.length + 1 - (0 + 1) = L.length by omega]
      exact fM_e _ (fun j _ => by rw [show 0 + 1 + j = j + 1 by omega]; rfl)
    · exact fM_e _ (fun i _ => by
        show (List.range (L.length + 1 - (i + 1 + 1))).flatMap _ = _
        rw [show L.length + 1 - (i + 1 + 1) = L.length - (i + 1) by omega]
        exact fM_e _ (fun j _ => by rw [show i + 1 + 1 + j = (i + 1 + j) + 1 by omega]; rfl))
