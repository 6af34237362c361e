theorem lx_Kex {n : Nat} {tp : Nat → Int32} : ∀ (c p : Nat), p + c = n → ∃ q, lx_K n tp p q := by
  intro c
  induction c with
  | zero => exact fun p h => ⟨p, Nat.le_refl p, by omega, fun j h1 h2 => absurd h2 (by omega), fun h => absurd h (by omega)⟩
  | succ c ih =>
    intro p h
    by_cases e : lx_so (tp p) = 1
    · obtain ⟨q, h1, h2, h3, h4⟩ := ih (p + 1) (by omega)
      refine ⟨q, by omega, h2, fun j a b => ?_, h4⟩
      by_cases e2 : j = p
      · rw [e2]; exact e
      · exact h3 j (by omega) b
    · exact ⟨p, Nat.le_refl p, by omega, fun j h1 h2 => absurd h2 (by omega), fun _ => e⟩
theorem lx_Eex {n : Nat} {tp : Nat → Int32} (s : Int32) : ∀ (c p : Nat), p + c = n → ∃ q, lx_E n tp s p q := by
  intro c
  induction c with
  | zero => exact fun p h => ⟨p, Nat.le_refl p, by omega, fun j h1 h2 => absurd h2 (by omega), fun h => absurd h (by omega)⟩
  | succ c ih =>
    intro p h
    by_cases e : lx_so (tp p) = s
    · obtain ⟨q, h1, h2, h3, h4⟩ := ih (p + 1) (by omega)
      refine ⟨q, by omega, h2, fun j a b => ?_, h4⟩
      by_cases e2 : j = p
      · rw [e2]; exact e
      · exact h3 j (by omega) b
    · exact ⟨p, Nat.le_refl p, by omega, fun j h1 h2 => absurd h2 (by omega), fun _ => e⟩
theorem lx_Tex {n : Nat} {tp : Nat → Int32} {p : Nat} (hp : p ≤ n) : ∃ q : Nat × Nat, lx_T n tp p q.1 q.2 := by
  obtain ⟨a, ha⟩ := lx_Kex (n := n) (tp := tp) (n - p) p (by omega)
  by_cases e : a < n
  · by_cases e2 : lx_so (tp a) = 2 ∨ lx_so (tp a) = 3
    · obtain ⟨q, hq⟩ := lx_Eex (n := n) (tp := tp) (lx_so (tp a)) (n - a) a (by omega)
      exact ⟨(a, q), ha, Or.inr (Or.inl ⟨e, e2, hq⟩)⟩
    · exact ⟨(a, a + 1), ha, Or.inr (Or.inr ⟨e, e2, rfl⟩)⟩
  · exact ⟨(a, n), ha, Or.inl ⟨by have := ha.2.1; omega, rfl⟩⟩
theorem lx_T.le {n : Nat} {tp : Nat → Int32} {p a e : Nat} (T : lx_T n tp p a e) : a ≤ e ∧ e ≤ n := by
  rcases T.2 with ⟨r1, r2⟩ | ⟨r1, _, r2⟩ | ⟨r1, _, r2⟩
  · omega
  · exact ⟨r2.1, r2.2.1⟩
  · omega
/-- the word behind p -/
noncomputable def lx_w (n : Nat) (tp : Nat → Int32) (p : Nat) : Nat × Nat := @dite (Nat × Nat) (∃ q : Nat × Nat, lx_T n tp p q.1 q.2) (Classical.propDecidable _) (fun h => Classical.choose h) (fun _ => (n, n))
theorem lx_wT {n : Nat} {tp : Nat → Int32} {p : Nat} (h : ∃ q : Nat × Nat, lx_T n tp p q.1 q.2) : lx_T n tp p (lx_w n tp p).1 (lx_w n tp p).2 := by
  have e : lx_w n tp p = Classical.choose h := dif_pos h
  rw [e]
  exact Classical.choose_spec h
/-- the words of the tape: from, behind -/
noncomputable def lx_W (n : Nat) (tp : Nat → Int32) : Nat → Nat × Nat
  | 0 => lx_w n tp 0
  | j + 1 => lx_w n tp (lx_W n tp j).2
theorem lx_W_ok (n : Nat) (tp : Nat → Int32) : ∀ j, ∃ p, lx_T n tp p (lx_W n tp j).1 (lx_W n tp j).2 := by
  intro j
  induction j with
  | zero => exact ⟨0, lx_wT (lx_Tex (Nat.zero_le n))⟩
  | succ j ih =>
    obtain ⟨p, hp⟩ := ih
    exact ⟨(lx_W n tp j).2, lx_wT (lx_Tex hp.le.2)⟩
theorem lx_W_le (n : Nat) (tp : Nat → Int32) (j : Nat) : (lx_W n tp j).1 ≤ (lx_W n tp j).2 ∧ (lx_W n tp j).2 ≤ n := by
  obtain ⟨p, hp⟩ := lx_W_ok n tp j
  exact hp.le
theorem lx_W_0 {n : Nat} {tp : Nat → Int32} {a e : Nat} (T : lx_T n tp 0 a e) : a = (lx_W n tp 0).1 ∧ e = (lx_W n tp 0).2 := T.un (lx_wT ⟨(a, e), T⟩)
theorem lx_W_1 {n : Nat} {tp : Nat → Int32} {j a e : Nat} (T : lx_T n tp (lx_W n tp j).2 a e) : a = (lx_W n tp (j + 1)).1 ∧ e = (lx_W n tp (j + 1)).2 := T.un (lx_wT ⟨(a, e), T⟩)
/-- sort and worth of word j -/
noncomputable def wS (n : Nat) (tp : Nat → Int32) (j : Nat) : Int32 := lx_ss n tp (lx_W n tp j).1 (lx_W n tp j).2
noncomputable def wV (n : Nat) (tp : Nat → Int32) (j : Nat) : Int64 := lx_vv n tp (lx_W n tp j).1 (lx_W n tp j).2
abbrev w_sg (n : Nat) (tp : Nat → Int32) (c : Int32) (j : Nat) : Prop := wS n tp j = 4 ∧ wV n tp j = c.toInt64
abbrev w_nu (n : Nat) (tp : Nat → Int32) (c : Int32) (j : Nat) : Prop := wS n tp j = 3 ∧ wV n tp j < c.toInt64
noncomputable def w_nv (n : Nat) (tp : Nat → Int32) (j : Nat) : Int32 := (wV n tp j).toInt32
/-- a name, worth w -/
abbrev w_is (n : Nat) (tp : Nat → Int32) (w : Int64) (j : Nat) : Prop := wS n tp j = 2 ∧ wV n tp j = w
theorem w_end {n : Nat} {tp : Nat → Int32} {j : Nat} : wS n tp j = 0 ↔ ¬ (lx_W n tp j).1 < n := by
  constructor
  · intro h q
    unfold wS at h
    by_cases q2 : lx_so (tp (lx_W n tp j).1) = 2
    · rw [(lx_s2 q q2).1, q2] at h
      revert h
      split <;> decide
    · by_cases q3 : lx_so (tp (lx_W n tp j).1) = 3
      · rw [(lx_s3 q q3).1, q3] at h
        revert h
        split <;> decide
      · rw [(lx_s4 q q2 q3).1] at h
        exact lx_so_ne _ h
  · exact fun h => (lx_s0 h).1
/-- which condition word j begins: 1 run, 2 volt, 3 end, 0 none -/
noncomputable def cd_w (n : Nat) (tp : Nat → Int32) (k x4 x5 x6 : Int32) (j : Nat) : Nat :=
  if w_is n tp (mk_5 114 117 110 0 0) j ∧ x4 = -1 ∧ (k = 0 ∨ k = 1 ∨ k = 7 ∨ k = 9 ∨ k = 10) then 1
  else if w_is n tp (mk_5 118 111 108 116 0) j ∧ x5 = -1 ∧ (k = 7 ∨ k = 8) then 2
  else if w_is n tp (mk_5 101 110 100 0 0) j ∧ x6 = -1 ∧ k = 7 then 3 else 0
def cd_x (c q : Nat) (x v : Int32) : Int32 := if c = q then v else x
/-- conditions from word j on, at most f of them: the word at which it breaks off, or the word behind and run, volt, end -/
noncomputable def rd_cs (n : Nat) (tp : Nat → Int32) (k : Int32) : Nat → Int32 → Int32 → Int32 → Nat → Nat ⊕ (Nat × Int32 × Int32 × Int32)
  | 0, _, _, _, j => .inl j
  | f + 1, x4, x5, x6, j => if w_sg n tp 59 j then .inr (j + 1, x4, x5, x6) else if cd_w n tp k x4 x5 x6 j = 0 then .inl j else if w_nu n tp 1000000000 (j + 1) then
      rd_cs n tp k f (cd_x (cd_w n tp k x4 x5 x6 j) 1 x4 (w_nv n tp (j + 1))) (cd_x (cd_w n tp k x4 x5 x6 j) 2 x5 (w_nv n tp (j + 1))) (cd_x (cd_w n tp k x4 x5 x6 j) 3 x6 (w_nv n tp (j + 1))) (j + 2) else .inl (j + 1)
/-- how many conditions may still come -/
def cd_n (x4 x5 x6 : Int32) : Nat := (if x4 = -1 then 1 else 0) + (if x5 = -1 then 1 else 0) + (if x6 = -1 then 1 else 0)
/-- the kind that word j names -/
noncomputable def rd_k (n : Nat) (tp : Nat → Int32) (j : Nat) : Int32 := if wS n tp j = 2 then kdo (wV n tp j) else -1
abbrev rd_new (n : Nat) (tp : Nat → Int32) (nm : Nat → Int64) (d j : Nat) : Prop := wS n tp j = 2 ∧ ∀ i, i < d → ¬ nm i = wV n tp j
def rd_row (x0 x1 x2 x3 x4 x5 x6 : Int32) (c : Nat) : Int32 := match c with | 0 => x0 | 1 => x1 | 2 => x2 | 3 => x3 | 4 => x4 | 5 => x5 | _ => x6
/-- from '<' on -/
noncomputable def rd_tl (n : Nat) (tp : Nat → Int32) (x0 x1 x2 : Int32) (j : Nat) : Nat ⊕ (Nat × (Nat → Int32)) :=
  if w_sg n tp 60 j then if w_nu n tp 1000000000 (j + 1) then
    match rd_cs n tp x0 4 (-1) (-1) (-1) (j + 2) with | .inl e => .inl e | .inr (e, x4, x5, x6) => .inr (e, rd_row x0 x1 x2 (w_nv n tp (j + 1)) x4 x5 x6)
    else .inl (j + 1) else .inl j
/-- a rule from word j on -/
noncomputable def rd_rl (n : Nat) (tp : Nat → Int32) (ly : Int32) (nm : Nat → Int64) (d j : Nat) : Nat ⊕ (Nat × (Nat → Int32)) :=
  if rd_new n tp nm d j then if w_sg n tp 61 (j + 1) then if rd_k n tp (j + 2) = -1 then .inl (j + 2) else if w_nu n tp ly (j + 3) then
    if 7 ≤ rd_k n tp (j + 2) then if w_nu n tp ly (j + 4) then rd_tl n tp (rd_k n tp (j + 2)) (w_nv n tp (j + 3)) (w_nv n tp (j + 4)) (j + 5) else .inl (j + 4)
    else rd_tl n tp (rd_k n tp (j + 2)) (w_nv n tp (j + 3)) (w_nv n tp (j + 3)) (j + 4)
    else .inl (j + 3) else .inl (j + 1) else .inl j
def rd_un (nm : Nat → Int64) (d : Nat) (x : Int64) (i : Nat) : Int64 := if i = d then x else nm i
def rd_ut (r : Nat → Nat → Int32) (d : Nat) (x : Nat → Int32) (c i : Nat) : Int32 := if i = d then x c else r c i
/-- rules from word j on, f more at most, d of them read: the word at which it breaks off, or how many and which -/
noncomputable def rd_all (n : Nat) (tp : Nat → Int32) (ly : Int32) : Nat → Nat → (Nat → Int64) → (Nat → Nat → Int32) → Nat → Nat ⊕ (Nat × (Nat → Nat → Int32))
  | 0, _, _, _, j => .inl j
  | f + 1, d, nm, r, j => match rd_rl n tp ly nm d j with
    | .inl e => .inl e
    | .inr (e, x) => if wS n tp e = 0 then .inr (d + 1, rd_ut r d x) else rd_all n tp ly f (d + 1) (rd_un nm d (wV n tp j)) (rd_ut r d x) e
