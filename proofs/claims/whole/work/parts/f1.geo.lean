/-- which way a side goes, the area, which side is within, which way a side faces, where an outer corner points -/
def hdI (n : Nat) (C : Nat → Int × Int) (i : Nat) : Nat := if (C i).1 = (C (gm_aft n i)).1 then (if (C i).2 < (C (gm_aft n i)).2 then 1 else 3) else (if (C i).1 < (C (gm_aft n i)).1 then 0 else 2)
def arP (n : Nat) (C : Nat → Int × Int) : Int := smI (fun k => (C k).1 * ((C (gm_aft n k)).2 - (C k).2)) n
def lfI (n : Nat) (C : Nat → Int × Int) : Bool := decide (0 < arP n C)
def fcI (n : Nat) (C : Nat → Int × Int) (i : Nat) : Nat := (hdI n C i + (if lfI n C = true then 3 else 1)) % 4
def ocI (n : Nat) (C : Nat → Int × Int) (i : Nat) : Option Nat := if decide ((hdI n C i + 4 - hdI n C (gm_bef n i)) % 4 = 1) = lfI n C then some (if lfI n C = true then fcI n C (gm_bef n i) else fcI n C i) else none
/-- every side lies or stands -/
def rcI (n : Nat) (C : Nat → Int × Int) : Prop := ∀ i, i < n → ((C i).1 = (C (gm_aft n i)).1 ∧ (C i).2 ≠ (C (gm_aft n i)).2) ∨ ((C i).2 = (C (gm_aft n i)).2 ∧ (C i).1 ≠ (C (gm_aft n i)).1)
theorem aft_lt {n i : Nat} (h : i < n) : gm_aft n i < n := by unfold gm_aft; split <;> omega
theorem bef_lt {n i : Nat} (h : i < n) : gm_bef n i < n := by unfold gm_bef; split <;> omega
theorem bef_m {n i : Nat} (h : i < n) : (i + n - 1) % n = gm_bef n i := by
  unfold gm_bef
  split
  · next e => rw [e, Nat.zero_add, Nat.mod_eq_of_lt (by omega)]
  · next e => rw [show i + n - 1 = (i - 1) + n by omega, Nat.add_mod_right, Nat.mod_eq_of_lt (by omega)]
theorem crR_i {C : Nat → Int × Int} {n i : Nat} (h : i < n) : crR C n i = C i := if_neg (by omega)
theorem crR_a {C : Nat → Int × Int} {n i : Nat} (h : i < n) : crR C n (i + 1) = C (gm_aft n i) := by
  unfold crR gm_aft
  by_cases e : i + 1 = n
  · rw [if_pos e, if_neg (by omega)]
  · rw [if_neg e, if_pos (by omega)]
theorem twS_sm (C : Nat → Int × Int) : ∀ n, twS C n = smI (fun k => (C k).1 * (C (k + 1)).2 - (C (k + 1)).1 * (C k).2) n
  | 0 => rfl
  | n + 1 => by show twS C n + _ = smI _ n + _; rw [twS_sm C n]
theorem tw_e (C : Nat → Int × Int) (n : Nat) : twS (crR C n) n = smI (fun k => (C k).1 * (C (gm_aft n k)).2 - (C (gm_aft n k)).1 * (C k).2) n := by
  rw [twS_sm]
  exact smI_congr n (fun k hk => by rw [crR_i hk, crR_a hk])
/-- what goes round comes back -/
theorem sm_cy (f : Nat → Int) : ∀ n, smI (fun k => f (gm_aft n k)) n = smI f n
  | 0 => rfl
  | n + 1 => by
    have a := smI_cut f 1 n
    have e1 : smI f 1 = f 0 := by show 0 + f 0 = f 0; omega
    have e2 : smI f (1 + n) = smI f (n + 1) := by rw [Nat.add_comm]
    have b : smI (fun k => f (gm_aft (n + 1) k)) (n + 1) = smI (fun k => f (gm_aft (n + 1) k)) n + f (gm_aft (n + 1) n) := rfl
    have c : gm_aft (n + 1) n = 0 := if_neg (by omega)
    have d : smI (fun k => f (gm_aft (n + 1) k)) n = smI (fun k => f (1 + k)) n := smI_congr n (fun k hk => by
      have : gm_aft (n + 1) k = 1 + k := (if_pos (by omega)).trans (by omega)
      show f (gm_aft (n + 1) k) = _
      rw [this])
    rw [b, c, d]
    omega
theorem sm_cz (f : Nat → Int) (n : Nat) : smI (fun k => f (gm_aft n k) - f k) n = 0 := by
  rw [smI_sub (fun k => f (gm_aft n k)) f, sm_cy]; omega
theorem tw_ar {n : Nat} {C : Nat → Int × Int} (H : rcI n C) : twS (crR C n) n = 2 * arP n C := by
  rw [tw_e]
  have a := sm_cz (fun k => (C k).1 * (C k).2) n
  have b : smI (fun k => (C k).1 * (C (gm_aft n k)).2 - (C (gm_aft n k)).1 * (C k).2) n = smI (fun k => 2 * ((C k).1 * ((C (gm_aft n k)).2 - (C k).2))) n - smI (fun k => (C (gm_aft n k)).1 * (C (gm_aft n k)).2 - (C k).1 * (C k).2) n := by
    rw [← smI_sub]
    refine smI_congr n (fun k hk => ?_)
    rcases H k hk with ⟨q, _⟩ | ⟨q, _⟩
    · rw [← q]; grind
    · rw [← q]; grind
  rw [b, smI_mulL]
  unfold arP
  omega
theorem tw_mv {n : Nat} {C : Nat → Int × Int} {M : mvT} (hM : M.2.1 < 4) : twS (crR (fun k => mvA M (C k)) n) n = (if M.1 = true then - twS (crR C n) n else twS (crR C n) n) := by
  rw [tw_e, tw_e]
  obtain ⟨m, q, tx, ty⟩ := M
  have a := sm_cz (fun k => (mvA (m, q, tx, ty) (C k)).1) n
  have b := sm_cz (fun k => (mvA (m, q, tx, ty) (C k)).2) n
  have c : smI (fun k => (mvA (m, q, tx, ty) (C k)).1 * (mvA (m, q, tx, ty) (C (gm_aft n k))).2 - (mvA (m, q, tx, ty) (C (gm_aft n k))).1 * (mvA (m, q, tx, ty) (C k)).2) n = smI (fun k => (if m = true then -((C k).1 * (C (gm_aft n k)).2 - (C (gm_aft n k)).1 * (C k).2) else (C k).1 * (C (gm_aft n k)).2 - (C (gm_aft n k)).1 * (C k).2)) n + smI (fun k => tx * ((mvA (m, q, tx, ty) (C (gm_aft n k))).2 - (mvA (m, q, tx, ty) (C k)).2)) n - smI (fun k => ty * ((mvA (m, q, tx, ty) (C (gm_aft n k))).1 - (mvA (m, q, tx, ty) (C k)).1)) n := by
    rw [← smI_add, ← smI_sub]
    refine smI_congr n (fun k hk => ?_)
    rcases sv_q4 hM with h | h | h | h <;> (replace h : q = _ := h; subst h; cases m <;> (simp only [mvA, sg]; grind))
  rw [c, smI_mulL, smI_mulL, a, b]
  cases m
  · simp
  · simp [smI_neg]
theorem toM_h {n : Nat} {C : Nat → Int × Int} {i : Nat} (hi : i < n) : toM (crR C n) i = (hdI n C i + 3) % 4 := by
  unfold toM hdI
  rw [crR_i hi, crR_a hi]
  split <;> split <;> rfl
theorem hdI_4 (n : Nat) (C : Nat → Int × Int) (i : Nat) : hdI n C i < 4 := by unfold hdI; split <;> split <;> decide
theorem fcI_4 (n : Nat) (C : Nat → Int × Int) (i : Nat) : fcI n C i < 4 := Nat.mod_lt _ (by decide)
theorem rc_mv {n : Nat} {C : Nat → Int × Int} {M : mvT} (hM : M.2.1 < 4) (H : rcI n C) : rcI n (fun k => mvA M (C k)) := by
  intro i hi
  have h := H i hi
  obtain ⟨m, q, tx, ty⟩ := M
  rcases sv_q4 hM with e | e | e | e <;> (replace e : q = _ := e; subst e; cases m <;> (simp only [mvA, sg]; simp; omega))
def hdP (u w : Int × Int) : Nat := if u.1 = w.1 then (if u.2 < w.2 then 1 else 3) else (if u.1 < w.1 then 0 else 2)
theorem hdP_mv {M : mvT} (hM : M.2.1 < 4) {u w : Int × Int} (h : (u.1 = w.1 ∧ u.2 ≠ w.2) ∨ (u.2 = w.2 ∧ u.1 ≠ w.1)) : hdP (mvA M u) (mvA M w) = ((if M.1 = true then 4 - hdP u w else hdP u w) + M.2.1) % 4 := by
  obtain ⟨m, q, tx, ty⟩ := M
  obtain ⟨ux, uy⟩ := u
  obtain ⟨wx, wy⟩ := w
  simp only at h
  unfold hdP
  by_cases e1 : ux = wx
  · have e2 : uy ≠ wy := by omega
    by_cases e3 : uy < wy
    · rcases sv_q4 hM with e | e | e | e <;> (replace e : q = _ := e; subst e; cases m <;> (simp only [mvA, sg]; simp; repeat (split; try omega); try omega))
    · rcases sv_q4 hM with e | e | e | e <;> (replace e : q = _ := e; subst e; cases m <;> (simp only [mvA, sg]; simp; repeat (split; try omega); try omega))
  · have e2 : uy = wy := by omega
    by_cases e3 : ux < wx
    · rcases sv_q4 hM with e | e | e | e <;> (replace e : q = _ := e; subst e; cases m <;> (simp only [mvA, sg]; simp; repeat (split; try omega); try omega))
    · rcases sv_q4 hM with e | e | e | e <;> (replace e : q = _ := e; subst e; cases m <;> (simp only [mvA, sg]; simp; repeat (split; try omega); try omega))
theorem hd_mv {n : Nat} {C : Nat → Int × Int} {M : mvT} (hM : M.2.1 < 4) {i : Nat} (h : ((C i).1 = (C (gm_aft n i)).1 ∧ (C i).2 ≠ (C (gm_aft n i)).2) ∨ ((C i).2 = (C (gm_aft n i)).2 ∧ (C i).1 ≠ (C (gm_aft n i)).1)) : hdI n (fun k => mvA M (C k)) i = ((if M.1 = true then 4 - hdI n C i else hdI n C i) + M.2.1) % 4 := hdP_mv hM h
/-- the sign of the area of a moved polygon -/
theorem tw_lf {n : Nat} {C : Nat → Int × Int} {M : mvT} (hM : M.2.1 < 4) (H : rcI n C) (ha : arP n C ≠ 0) : (0 < twS (crR (fun k => mvA M (C k)) n) n) ↔ (lfI n C = !M.1) := by
  rw [tw_mv hM, tw_ar H]
  unfold lfI
  cases M.1
  · simp; omega
  · simp; omega
/-- faces of a moved polygon -/
theorem fc_mv {n : Nat} {C : Nat → Int × Int} {M : mvT} (hM : M.2.1 < 4) (H : rcI n C) (ha : arP n C ≠ 0) {i : Nat} (hi : i < n) : fcM (twS (crR (fun k => mvA M (C k)) n) n) (crR (fun k => mvA M (C k)) n) i = mvF M (fcI n C i) := by
  have a := tw_lf hM H ha
  have b := hd_mv hM (H i hi)
  have c := hdI_4 n C i
  unfold fcM mvF fcI
  rw [toM_h hi, b]
  cases hm : M.1 <;> cases hl : lfI n C <;> rw [hm, hl] at a <;> simp at a <;> simp [a] <;> (try rw [if_neg (by omega)]) <;> (try rw [if_pos (by omega)]) <;> omega
theorem it_sd {n : Nat} {C : Nat → Int × Int} {i : Nat} (hi : i < n) (s : Int) : itM (crR C n) i = sideT (fcM s (crR C n) i) C n i := by
  unfold itM sideT fcM toM
  rw [crR_i hi, crR_a hi]
  by_cases e : (C i).1 = (C (gm_aft n i)).1
  · rw [if_pos e, if_pos e, if_pos]
    by_cases e2 : (C i).2 < (C (gm_aft n i)).2
    · rw [if_pos e2]; by_cases e3 : 0 < s
      · rw [if_pos e3]; decide
      · rw [if_neg e3]; decide
    · rw [if_neg e2]; by_cases e3 : 0 < s
      · rw [if_pos e3]; decide
      · rw [if_neg e3]; decide
  · rw [if_neg e, if_neg e, if_neg]
    by_cases e2 : (C i).1 < (C (gm_aft n i)).1
    · rw [if_pos e2]; by_cases e3 : 0 < s
      · rw [if_pos e3]; decide
      · rw [if_neg e3]; decide
    · rw [if_neg e2]; by_cases e3 : 0 < s
      · rw [if_pos e3]; decide
      · rw [if_neg e3]; decide
/-- one side lies, the next stands -/
def alI (n : Nat) (C : Nat → Int × Int) : Prop := ∀ i, i < n → ¬ hdI n C (gm_bef n i) % 2 = hdI n C i % 2
def oc_l (l : Bool) (a : Nat) : Nat := (a + (if l = true then 3 else 1)) % 4
abbrev oc_t (l m : Bool) (a c q f : Nat) : Prop := decide ((if l = !m then mvF (m, q, 0, 0) (oc_l l a) = f ∧ mvF (m, q, 0, 0) (oc_l l c) = (f + 1) % 4 else mvF (m, q, 0, 0) (oc_l l a) = (f + 1) % 4 ∧ mvF (m, q, 0, 0) (oc_l l c) = f) ↔ cpt (m, q, 0, 0) f (if decide ((c + 4 - a) % 4 = 1) = l then some (if l = true then oc_l l a else oc_l l c) else none) = true) = true
theorem oc_fin (l m : Bool) : ∀ a, a < 4 → ∀ c, c < 4 → ∀ q, q < 4 → ∀ f, f < 4 → (a % 2 = c % 2 ∨ oc_t l m a c q f) := by cases l <;> cases m <;> decide +kernel
/-- outer corners of a moved polygon -/
theorem oc_mv {n : Nat} {C : Nat → Int × Int} {M : mvT} (hM : M.2.1 < 4) (H : rcI n C) (ha : arP n C ≠ 0) (hal : alI n C) {i : Nat} (hi : i < n) {f : Nat} (hf : f < 4) : fxM (twS (crR (fun k => mvA M (C k)) n) n) (crR (fun k => mvA M (C k)) n) n i f ((f + 1) % 4) ↔ cpt M f (ocI n C i) = true := by
  have a := tw_lf hM H ha
  have b1 := fc_mv hM H ha hi
  have b2 := fc_mv hM H ha (bef_lt hi)
  have k := (oc_fin (lfI n C) M.1 _ (hdI_4 n C (gm_bef n i)) _ (hdI_4 n C i) _ hM f hf).resolve_left (hal i hi)
  unfold oc_t at k
  replace k := of_decide_eq_true k
  unfold fxM
  rw [bef_m hi, b1, b2]
  have e : cpt (M.1, M.2.1, 0, 0) f (if decide ((hdI n C i + 4 - hdI n C (gm_bef n i)) % 4 = 1) = lfI n C then some (if lfI n C = true then oc_l (lfI n C) (hdI n C (gm_bef n i)) else oc_l (lfI n C) (hdI n C i)) else none) = cpt M f (ocI n C i) := by
    have e9 : ∀ z, cpt (M.1, M.2.1, 0, 0) f z = cpt M f z := fun z => by cases z <;> rfl
    rw [e9]; rfl
  rw [← e, ← k]
  by_cases c : lfI n C = !M.1
  · rw [if_pos (a.mpr c), if_pos c]; exact Iff.rfl
  · rw [if_neg (fun q => c (a.mp q)), if_neg c]; exact Iff.rfl
/-- the area, as the model has it -/
theorem ar_P {n : Nat} {C : Nat → Int × Int} (H : rcI n C) : (if twS (crR C n) n < 0 then -(twS (crR C n) n) else twS (crR C n) n) / 2 = (if lfI n C = true then arP n C else - arP n C) := by
  rw [tw_ar H]
  unfold lfI
  by_cases e : 0 < arP n C
  · rw [if_neg (by omega), if_pos (decide_eq_true e)]; omega
  · rw [if_neg (show ¬ decide (0 < arP n C) = true from fun q => e (of_decide_eq_true q))]
    by_cases e2 : 2 * arP n C < 0
    · rw [if_pos e2]; omega
    · rw [if_neg e2]; omega
