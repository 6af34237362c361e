/-- the model at m has the code k -/
def sv_cd (m : Nat) (k : Int32) (h : sv_h) : Prop := ∃ fs : List Value, h m = some (.inr (11, fs)) ∧ fs.length = 71 ∧ fs[0]? = some (.int k)
/-- what an invariant of the law's loop tells: the two objects and the row of one long -/
def sv_In (G : sv_G) (b m o : Nat) (I : sv_h → Nat → Prop) : Prop := ∀ (h : sv_h) (z : Nat), I h z → (∃ fs, h b = some (.inr (10, fs))) ∧ (∃ fs, h m = some (.inr (11, fs))) ∧ ∃ f, h o = some (.inl (G.2.2.1 1, 1, .inr (.inl f)))
/-- a call that only returns: both answer alike -/
def OpD (G : sv_G) (MX MM : sv_M) (b m : Nat) (as : List Value) (I I1 : sv_h → Nat → Prop) : Prop := ∀ (h : sv_h) (z : Nat), I h z → ∃ Q1, CT G MX (.ref b :: as) h z Q1 ∧ ∀ v h1 z1, Q1 v h1 z1 → ∃ w : Int32, v = some (.int w) ∧ (∃ fs, h1 m = some (.inr (11, fs))) ∧ ∃ Q2, CT G MM (.ref m :: as) h1 z1 Q2 ∧ ∀ v2 h2 z2, Q2 v2 h2 z2 → v2 = some (.int w) ∧ I1 h2 z2
/-- a call that returns or throws: both answer alike -/
def OpI (G : sv_G) (MX MM : sv_M) (b m o : Nat) (names : List String) (as : List Value) (I I1 : sv_h → Nat → Prop) : Prop := ∀ (h : sv_h) (z : Nat), I h z → ∃ Qr Qx, CX G MX (.ref b :: as) h z Qr Qx ∧
  (∀ v h1 z1, Qr v h1 z1 → ∃ w : Int32, v = some (.int w) ∧ (∃ f, h1 o = some (.inl (G.2.2.1 1, 1, .inr (.inl f)))) ∧ m ≠ o ∧ (∃ fs, h1 m = some (.inr (11, fs))) ∧ ∀ (h2 : sv_h) (g : Nat → Int64), h2 o = some (.inl (G.2.2.1 1, 1, .inr (.inl g))) → g 0 = w.toInt64 → (∀ a, a ≠ o → h2 a = h1 a) → ∃ Q2, CT G MM (.ref m :: as) h2 z1 Q2 ∧ ∀ v2 h3 z3, Q2 v2 h3 z3 → v2 = some (.int w) ∧ sv_cd m 0 h3 ∧ h3 o = some (.inl (G.2.2.1 1, 1, .inr (.inl g))) ∧ I1 h3 z3) ∧
  (∀ E h1 z1, Qx E h1 z1 → ∃ j : Nat, names[j]? = some E ∧ (∃ fs, h1 m = some (.inr (11, fs))) ∧ ∃ Q2, CT G MM (.ref m :: as) h1 z1 Q2 ∧ ∀ v2 h3 z3, Q2 v2 h3 z3 → (∃ w2 : Int32, v2 = some (.int w2)) ∧ sv_cd m (nI (j + 1)) h3 ∧ I1 h3 z3)
/-- a call that returns or throws: both answer alike -/
def OpZ (G : sv_G) (MX MM : sv_M) (b m o : Nat) (names : List String) (as : List Value) (I I1 : sv_h → Nat → Prop) : Prop := ∀ (h : sv_h) (z : Nat), I h z → ∃ Qr Qx, CX G MX (.ref b :: as) h z Qr Qx ∧
  (∀ v h1 z1, Qr v h1 z1 → ∃ w : Int32, v = some (.int w) ∧ (∃ f, h1 o = some (.inl (G.2.2.1 1, 1, .inr (.inl f)))) ∧ m ≠ o ∧ (∃ fs, h1 m = some (.inr (11, fs))) ∧ ∀ (h2 : sv_h) (g : Nat → Int64), h2 o = some (.inl (G.2.2.1 1, 1, .inr (.inl g))) → g 0 = (if w = 0 then 0 else 1) → (∀ a, a ≠ o → h2 a = h1 a) → ∃ Q2, CT G MM (.ref m :: as) h2 z1 Q2 ∧ ∀ v2 h3 z3, Q2 v2 h3 z3 → v2 = some (.int w) ∧ sv_cd m 0 h3 ∧ h3 o = some (.inl (G.2.2.1 1, 1, .inr (.inl g))) ∧ I1 h3 z3) ∧
  (∀ E h1 z1, Qx E h1 z1 → ∃ j : Nat, names[j]? = some E ∧ (∃ fs, h1 m = some (.inr (11, fs))) ∧ ∃ Q2, CT G MM (.ref m :: as) h1 z1 Q2 ∧ ∀ v2 h3 z3, Q2 v2 h3 z3 → (∃ w2 : Int32, v2 = some (.int w2)) ∧ sv_cd m (nI (j + 1)) h3 ∧ I1 h3 z3)
/-- a call that returns or throws: both answer alike -/
def OpJ (G : sv_G) (MX MM : sv_M) (b m o : Nat) (names : List String) (as : List Value) (I I1 : sv_h → Nat → Prop) : Prop := ∀ (h : sv_h) (z : Nat), I h z → ∃ Qr Qx, CX G MX (.ref b :: as) h z Qr Qx ∧
  (∀ v h1 z1, Qr v h1 z1 → ∃ w : Int64, v = some (.long w) ∧ (∃ f, h1 o = some (.inl (G.2.2.1 1, 1, .inr (.inl f)))) ∧ m ≠ o ∧ (∃ fs, h1 m = some (.inr (11, fs))) ∧ ∀ (h2 : sv_h) (g : Nat → Int64), h2 o = some (.inl (G.2.2.1 1, 1, .inr (.inl g))) → g 0 = w → (∀ a, a ≠ o → h2 a = h1 a) → ∃ Q2, CT G MM (.ref m :: as) h2 z1 Q2 ∧ ∀ v2 h3 z3, Q2 v2 h3 z3 → v2 = some (.long w) ∧ sv_cd m 0 h3 ∧ h3 o = some (.inl (G.2.2.1 1, 1, .inr (.inl g))) ∧ I1 h3 z3) ∧
  (∀ E h1 z1, Qx E h1 z1 → ∃ j : Nat, names[j]? = some E ∧ (∃ fs, h1 m = some (.inr (11, fs))) ∧ ∃ Q2, CT G MM (.ref m :: as) h1 z1 Q2 ∧ ∀ v2 h3 z3, Q2 v2 h3 z3 → (∃ w2 : Int64, v2 = some (.long w2)) ∧ sv_cd m (nI (j + 1)) h3 ∧ I1 h3 z3)
theorem sv_sin {a c L : Nat} (h : a + c < L) (hL : L < 2 ^ 31) : vp_in (nI a + nI c) L := by rw [nI_add]; exact vp_in_nI h hL
theorem sv_n1 {a E : String} {j : Nat} (h : [a][j]? = some E) : E = a ∧ j = 0 := by
  match j, h with
  | 0, h => exact ⟨(Option.some.inj h).symm, rfl⟩
  | j + 1, h => simp at h
theorem sv_n2 {a b E : String} {j : Nat} (h : [a, b][j]? = some E) : (E = a ∧ j = 0) ∨ (E = b ∧ j = 1) := by
  match j, h with
  | 0, h => exact Or.inl ⟨(Option.some.inj h).symm, rfl⟩
  | 1, h => exact Or.inr ⟨(Option.some.inj h).symm, rfl⟩
  | j + 2, h => simp at h
theorem sv_n3 {a b c E : String} {j : Nat} (h : [a, b, c][j]? = some E) : (E = a ∧ j = 0) ∨ (E = b ∧ j = 1) ∨ (E = c ∧ j = 2) := by
  match j, h with
  | 0, h => exact Or.inl ⟨(Option.some.inj h).symm, rfl⟩
  | 1, h => exact Or.inr (Or.inl ⟨(Option.some.inj h).symm, rfl⟩)
  | 2, h => exact Or.inr (Or.inr ⟨(Option.some.inj h).symm, rfl⟩)
  | j + 3, h => simp at h
