/-- the sum of the first n -/
def smI (f : Nat → Int) : Nat → Int | 0 => 0 | k + 1 => smI f k + f k
theorem smI_add (f g : Nat → Int) : ∀ n, smI (fun k => f k + g k) n = smI f n + smI g n := by
  intro n
  induction n with
  | zero => rfl
  | succ n ih => show smI _ n + (f n + g n) = (smI f n + f n) + (smI g n + g n); rw [ih]; omega
theorem smI_sub (f g : Nat → Int) : ∀ n, smI (fun k => f k - g k) n = smI f n - smI g n := by
  intro n
  induction n with
  | zero => rfl
  | succ n ih => show smI _ n + (f n - g n) = (smI f n + f n) - (smI g n + g n); rw [ih]; omega
theorem smI_neg (f : Nat → Int) : ∀ n, smI (fun k => - f k) n = - smI f n := by
  intro n
  induction n with
  | zero => rfl
  | succ n ih => show smI _ n + - f n = - (smI f n + f n); rw [ih]; omega
theorem smI_mul (f : Nat → Int) (a : Int) : ∀ n, smI (fun k => f k * a) n = smI f n * a := by
  intro n
  induction n with
  | zero => show (0 : Int) = 0 * a; rw [Int.zero_mul]
  | succ n ih => show smI _ n + f n * a = (smI f n + f n) * a; rw [ih, Int.add_mul]
theorem smI_mulL (f : Nat → Int) (a : Int) : ∀ n, smI (fun k => a * f k) n = a * smI f n := by
  intro n
  induction n with
  | zero => show (0 : Int) = a * 0; rw [Int.mul_zero]
  | succ n ih => show smI _ n + a * f n = a * (smI f n + f n); rw [ih, Int.mul_add]
theorem smI_congr {f g : Nat → Int} : ∀ n, (∀ k, k < n → f k = g k) → smI f n = smI g n := by
  intro n
  induction n with
  | zero => intro _; rfl
  | succ n ih => intro h; show smI f n + f n = smI g n + g n; rw [ih (fun k hk => h k (by omega)), h n (by omega)]
theorem smI_zero {f : Nat → Int} (n : Nat) (h : ∀ k, k < n → f k = 0) : smI f n = 0 := by
  rw [smI_congr n h]
  induction n with
  | zero => rfl
  | succ n ih => show smI _ n + 0 = 0; rw [ih (fun k hk => h k (by omega))]; rfl
theorem smI_tel (f : Nat → Int) : ∀ n, smI (fun k => f k - f (k + 1)) n = f 0 - f n := by
  intro n
  induction n with
  | zero => show (0 : Int) = _; omega
  | succ n ih => show smI _ n + (f n - f (n + 1)) = _; rw [ih]; omega
theorem smI_cut (f : Nat → Int) (m : Nat) : ∀ n, smI f (m + n) = smI f m + smI (fun k => f (m + k)) n := by
  intro n
  induction n with
  | zero => show smI f m = _ + 0; omega
  | succ n ih => show smI f (m + n) + f (m + n) = smI f m + (smI _ n + f (m + n)); rw [ih]; omega
/-- round and round -/
theorem smI_per {f : Nat → Int} {n : Nat} (hp : ∀ k, f (k + n) = f k) : ∀ i, smI (fun k => f (i + k)) n = smI f n := by
  intro i
  induction i with
  | zero => exact smI_congr n (fun k _ => by rw [Nat.zero_add])
  | succ i ih =>
    rw [← ih]
    have a := smI_cut (fun k => f (i + k)) 1 n
    have b : smI (fun k => f (i + k)) (1 + n) = smI (fun k => f (i + k)) n + f (i + n) := by rw [Nat.add_comm 1 n]; rfl
    have c : smI (fun k => f (i + k)) 1 = f i := by show 0 + f (i + 0) = f i; rw [Nat.add_zero]; omega
    have d : smI (fun k => f (i + (1 + k))) n = smI (fun k => f (i + 1 + k)) n := smI_congr n (fun k _ => by rw [Nat.add_assoc])
    rw [hp] at b
    omega
theorem smI_3 {f : Nat → Int} {n : Nat} (hn : 4 ≤ n) (hp : ∀ k, f (k + n) = f k) (i : Nat) (h0 : ∀ s, 2 ≤ s → s + 2 ≤ n → f (i + s) = 0) : smI f n = f i + f (i + 1) + f (i + (n - 1)) := by
  rw [← smI_per hp i]
  obtain ⟨m, rfl⟩ : ∃ m, n = 2 + m + 1 := ⟨n - 3, by omega⟩
  show smI _ (2 + m) + f (i + (2 + m)) = _
  rw [smI_cut, smI_zero m (fun k hk => h0 (2 + k) (by omega) (by omega))]
  show 0 + f (i + 0) + f (i + 1) + 0 + _ = _
  rw [show 2 + m + 1 - 1 = 2 + m by omega, Nat.add_zero]
  omega
theorem smI_nn {f : Nat → Int} (n : Nat) (h : ∀ k, k < n → 0 ≤ f k) : 0 ≤ smI f n := by
  induction n with
  | zero => exact Int.le_refl 0
  | succ n ih => have := ih (fun k hk => h k (by omega)); have := h n (by omega); show 0 ≤ smI f n + f n; omega
theorem smI_pos {f : Nat → Int} (n : Nat) (h : ∀ k, k < n → 0 ≤ f k) {j : Nat} (hj : j < n) (hp : 0 < f j) : 0 < smI f n := by
  induction n with
  | zero => omega
  | succ n ih =>
    show 0 < smI f n + f n
    have a := h n (by omega)
    by_cases e : j = n
    · subst e; have := smI_nn j (fun k hk => h k (by omega)); omega
    · have := ih (fun k hk => h k (by omega)) (by omega); omega
theorem smI_swap (f : Nat → Nat → Int) (m : Nat) : ∀ n, smI (fun k => smI (f k) m) n = smI (fun j => smI (fun k => f k j) n) m := by
  intro n
  induction n with
  | zero => exact (smI_zero m (fun _ _ => rfl)).symm
  | succ n ih =>
    show smI _ n + smI (f n) m = _
    rw [ih, ← smI_add]
    rfl
/-- 1 from a on -/
def dl (a c : Int) : Int := if a ≤ c then 1 else 0
theorem dl_sum (B : Nat) (a : Int) (h1 : -(B : Int) ≤ a) (h2 : a ≤ B) : smI (fun k => dl a ((k : Int) - B)) (2 * B) = B - a := by
  have : ∀ m : Nat, smI (fun k => dl a ((k : Int) - B)) m = if (m : Int) - B ≤ a then 0 else (m : Int) - B - a := by
    intro m
    induction m with
    | zero => rw [if_pos (by omega)]; rfl
    | succ m ih =>
      show smI _ m + dl a ((m : Int) - B) = _
      rw [ih]
      unfold dl
      repeat' split
      all_goals omega
  rw [this]
  split <;> omega
section WIND
variable {n : Nat} {x y : Nat → Int}
/-- sides one behind the other: one lies, one stands -/
def rt_alt (x y : Nat → Int) : Prop := ∀ k, (x k = x (k + 1) ∧ y k ≠ y (k + 1) ∧ y (k + 1) = y (k + 2) ∧ x (k + 1) ≠ x (k + 2)) ∨ (y k = y (k + 1) ∧ x k ≠ x (k + 1) ∧ x (k + 1) = x (k + 2) ∧ y (k + 1) ≠ y (k + 2))
def rt_on (x y : Nat → Int) (k : Nat) (a b : Int) : Prop := (min (x k) (x (k + 1)) ≤ a ∧ a ≤ max (x k) (x (k + 1))) ∧ min (y k) (y (k + 1)) ≤ b ∧ b ≤ max (y k) (y (k + 1))
def rt_free (n : Nat) (x y : Nat → Int) : Prop := ∀ i s a b, 2 ≤ s → s + 2 ≤ n → rt_on x y i a b → ¬ rt_on x y (i + s) a b
def rt_per (n : Nat) (x y : Nat → Int) : Prop := ∀ k, x (k + n) = x k ∧ y (k + n) = y k
/-- how often the cell c, r is gone round -/
def wd (n : Nat) (x y : Nat → Int) (c r : Int) : Int := smI (fun k => (dl (x k) c - dl (x (k + 1)) c) * dl (y k) r) n
def cV (x y : Nat → Int) (c r : Int) (k : Nat) : Int := if y k = r then dl (x k) c - dl (x (k + 1)) c else 0
def cH (x y : Nat → Int) (c r : Int) (k : Nat) : Int := if x k = c then dl (y (k + 1)) r - dl (y k) r else 0
theorem wd_V (c r : Int) : wd n x y c r - wd n x y c (r - 1) = smI (cV x y c r) n := by
  unfold wd
  rw [← smI_sub]
  refine smI_congr n (fun k _ => ?_)
  rw [← Int.mul_sub]
  unfold cV
  have : dl (y k) r - dl (y k) (r - 1) = if y k = r then 1 else 0 := by
    unfold dl
    repeat' split
    all_goals omega
  rw [this]
  split
  · rw [Int.mul_one]
  · rw [Int.mul_zero]
theorem wd_H (hp : rt_per n x y) (ha : rt_alt x y) (c r : Int) : wd n x y c r - wd n x y (c - 1) r = smI (cH x y c r) n := by
  unfold wd
  rw [← smI_sub]
  have t := smI_tel (fun k => (if x k = c then 1 else 0) * dl (y k) r) n
  have e0 : (if x 0 = c then (1 : Int) else 0) * dl (y 0) r = (if x n = c then (1 : Int) else 0) * dl (y n) r := by
    have q := hp 0
    rw [Nat.zero_add] at q
    rw [q.1, q.2]
  rw [e0, Int.sub_self] at t
  rw [← Int.add_zero (smI (cH x y c r) n), ← t, ← smI_add]
  refine smI_congr n (fun k _ => ?_)
  rw [← Int.sub_mul]
  have : dl (x k) c - dl (x (k + 1)) c - (dl (x k) (c - 1) - dl (x (k + 1)) (c - 1)) = (if x k = c then 1 else 0) - (if x (k + 1) = c then 1 else 0) := by
    unfold dl
    repeat' split
    all_goals omega
  rw [this]
  unfold cH
  rcases ha k with ⟨h1, h2, _⟩ | ⟨h1, h2, _⟩
  · rw [← h1, Int.sub_self, Int.zero_mul]
    split
    · rw [Int.one_mul, Int.one_mul]; omega
    · rw [Int.zero_mul, Int.zero_mul]; rfl
  · rw [← h1, Int.sub_self, Int.sub_mul]
    split <;> omega
theorem cV_on {c r : Int} {k : Nat} (ha : rt_alt x y) (h : cV x y c r k ≠ 0) : rt_on x y k c r ∧ rt_on x y k (c + 1) r := by
  have q := ha k
  unfold cV dl at h
  unfold rt_on
  split at h
  · rcases q with ⟨h1, h2, _⟩ | ⟨h1, h2, _⟩
    · rw [← h1] at h; omega
    · refine ⟨⟨?_, ?_⟩, ?_, ?_⟩ <;> (repeat' split at h) <;> omega
  · omega
theorem cH_on {c r : Int} {k : Nat} (ha : rt_alt x y) (h : cH x y c r k ≠ 0) : rt_on x y k c r ∧ rt_on x y k c (r + 1) := by
  have q := ha k
  unfold cH dl at h
  unfold rt_on
  split at h
  · rcases q with ⟨h1, h2, _⟩ | ⟨h1, h2, _⟩
    · refine ⟨⟨?_, ?_⟩, ?_, ?_⟩ <;> (repeat' split at h) <;> omega
    · rw [← h1] at h; omega
  · omega
theorem cV_per (hp : rt_per n x y) (c r : Int) (k : Nat) : cV x y c r (k + n) = cV x y c r k := by
  unfold cV
  have a := hp k
  have b := hp (k + 1)
  rw [show k + 1 + n = k + n + 1 by omega] at b
  rw [a.1, a.2, b.1]
theorem cH_per (hp : rt_per n x y) (c r : Int) (k : Nat) : cH x y c r (k + n) = cH x y c r k := by
  unfold cH
  have a := hp k
  have b := hp (k + 1)
  rw [show k + 1 + n = k + n + 1 by omega] at b
  rw [a.1, a.2, b.2]
/-- around a point of side i: only i and its neighbours count -/
theorem cV_3 (hn : 4 ≤ n) (hp : rt_per n x y) (ha : rt_alt x y) (hf : rt_free n x y) {i : Nat} {c r : Int} (h : rt_on x y i c r ∨ rt_on x y i (c + 1) r) : smI (cV x y c r) n = cV x y c r i + cV x y c r (i + 1) + cV x y c r (i + (n - 1)) := by
  refine smI_3 hn (cV_per hp c r) i (fun s h1 h2 => ?_)
  by_cases e : cV x y c r (i + s) = 0
  · exact e
  · have := cV_on ha e
    rcases h with h | h
    · exact absurd this.1 (hf i s _ _ h1 h2 h)
    · exact absurd this.2 (hf i s _ _ h1 h2 h)
theorem cH_3 (hn : 4 ≤ n) (hp : rt_per n x y) (ha : rt_alt x y) (hf : rt_free n x y) {i : Nat} {c r : Int} (h : rt_on x y i c r ∨ rt_on x y i c (r + 1)) : smI (cH x y c r) n = cH x y c r i + cH x y c r (i + 1) + cH x y c r (i + (n - 1)) := by
  refine smI_3 hn (cH_per hp c r) i (fun s h1 h2 => ?_)
  by_cases e : cH x y c r (i + s) = 0
  · exact e
  · have := cH_on ha e
    rcases h with h | h
    · exact absurd this.1 (hf i s _ _ h1 h2 h)
    · exact absurd this.2 (hf i s _ _ h1 h2 h)

theorem rt_prev (hn : 4 ≤ n) (hp : rt_per n x y) (i : Nat) : x (i + (n - 1) + 1) = x i ∧ y (i + (n - 1) + 1) = y i := by
  rw [show i + (n - 1) + 1 = i + n by omega]; exact hp i
/-- along a lying side -/
theorem wd_lieS (hn : 4 ≤ n) (hp : rt_per n x y) (ha : rt_alt x y) (hf : rt_free n x y) {i : Nat} (hy : y i = y (i + 1)) {c : Int} (h1 : min (x i) (x (i + 1)) ≤ c) (h2 : c + 1 < max (x i) (x (i + 1))) : wd n x y (c + 1) (y i) = wd n x y c (y i) ∧ wd n x y (c + 1) (y i - 1) = wd n x y c (y i - 1) := by
  have pv := rt_prev hn hp i
  have pv2 := hp (i + 1)
  rw [show i + 1 + n = i + (n - 1) + 2 by omega] at pv2
  have a0 := ha i; have a1 := ha (i + 1); have a2 := ha (i + (n - 1))
  rw [pv.1, pv.2, pv2.1, pv2.2] at a2
  rw [show i + 1 + 1 = i + 2 by omega] at a1
  have g : ∀ r, (r = y i ∨ r = y i - 1) → smI (cH x y (c + 1) r) n = 0 := by
    intro r hr
    rw [cH_3 hn hp ha hf (i := i) (by unfold rt_on; rcases hr with rfl | rfl; (left; omega); (right; omega))]
    have e0 : cH x y (c + 1) r i = 0 := by unfold cH; rw [if_neg (by omega)]
    have e1 : cH x y (c + 1) r (i + 1) = 0 := by unfold cH; rw [if_neg (by omega)]
    have e2 : cH x y (c + 1) r (i + (n - 1)) = 0 := by unfold cH; rw [if_neg (by omega)]
    omega
  have q1 := wd_H hp ha (c + 1) (y i)
  have q2 := wd_H hp ha (c + 1) (y i - 1)
  rw [g _ (Or.inl rfl)] at q1
  rw [g _ (Or.inr rfl)] at q2
  rw [show c + 1 - 1 = c by omega] at q1 q2
  omega
theorem wd_stdS (hn : 4 ≤ n) (hp : rt_per n x y) (ha : rt_alt x y) (hf : rt_free n x y) {i : Nat} (hx : x i = x (i + 1)) {r : Int} (h1 : min (y i) (y (i + 1)) ≤ r) (h2 : r + 1 < max (y i) (y (i + 1))) : wd n x y (x i) (r + 1) = wd n x y (x i) r ∧ wd n x y (x i - 1) (r + 1) = wd n x y (x i - 1) r := by
  have pv := rt_prev hn hp i
  have pv2 := hp (i + 1)
  rw [show i + 1 + n = i + (n - 1) + 2 by omega] at pv2
  have a0 := ha i; have a1 := ha (i + 1); have a2 := ha (i + (n - 1))
  rw [pv.1, pv.2, pv2.1, pv2.2] at a2
  rw [show i + 1 + 1 = i + 2 by omega] at a1
  have g : ∀ c, (c = x i ∨ c = x i - 1) → smI (cV x y c (r + 1)) n = 0 := by
    intro c hc
    rw [cV_3 hn hp ha hf (i := i) (by unfold rt_on; rcases hc with rfl | rfl; (left; omega); (right; omega))]
    have e0 : cV x y c (r + 1) i = 0 := by unfold cV; rw [if_neg (by omega)]
    have e1 : cV x y c (r + 1) (i + 1) = 0 := by unfold cV; rw [if_neg (by omega)]
    have e2 : cV x y c (r + 1) (i + (n - 1)) = 0 := by unfold cV; rw [if_neg (by omega)]
    omega
  have q1 := wd_V (n := n) (x := x) (y := y) (x i) (r + 1)
  have q2 := wd_V (n := n) (x := x) (y := y) (x i - 1) (r + 1)
  rw [g _ (Or.inl rfl)] at q1
  rw [g _ (Or.inr rfl)] at q2
  rw [show r + 1 - 1 = r by omega] at q1 q2
  omega
theorem wd_lie (hn : 4 ≤ n) (hp : rt_per n x y) (ha : rt_alt x y) (hf : rt_free n x y) {i : Nat} (hy : y i = y (i + 1)) : ∀ (d : Nat), min (x i) (x (i + 1)) + d < max (x i) (x (i + 1)) → wd n x y (min (x i) (x (i + 1)) + d) (y i) = wd n x y (min (x i) (x (i + 1))) (y i) ∧ wd n x y (min (x i) (x (i + 1)) + d) (y i - 1) = wd n x y (min (x i) (x (i + 1))) (y i - 1) := by
  intro d
  induction d with
  | zero => intro _; rw [show min (x i) (x (i + 1)) + ((0 : Nat) : Int) = min (x i) (x (i + 1)) by omega]; exact ⟨rfl, rfl⟩
  | succ d ih =>
    intro h
    have q := wd_lieS hn hp ha hf hy (c := min (x i) (x (i + 1)) + d) (by omega) (by omega)
    have p := ih (by omega)
    rw [show min (x i) (x (i + 1)) + ((d + 1 : Nat) : Int) = min (x i) (x (i + 1)) + d + 1 by omega]
    exact ⟨q.1.trans p.1, q.2.trans p.2⟩
theorem wd_std (hn : 4 ≤ n) (hp : rt_per n x y) (ha : rt_alt x y) (hf : rt_free n x y) {i : Nat} (hx : x i = x (i + 1)) : ∀ (d : Nat), min (y i) (y (i + 1)) + d < max (y i) (y (i + 1)) → wd n x y (x i) (min (y i) (y (i + 1)) + d) = wd n x y (x i) (min (y i) (y (i + 1))) ∧ wd n x y (x i - 1) (min (y i) (y (i + 1)) + d) = wd n x y (x i - 1) (min (y i) (y (i + 1))) := by
  intro d
  induction d with
  | zero => intro _; rw [show min (y i) (y (i + 1)) + ((0 : Nat) : Int) = min (y i) (y (i + 1)) by omega]; exact ⟨rfl, rfl⟩
  | succ d ih =>
    intro h
    have q := wd_stdS hn hp ha hf hx (r := min (y i) (y (i + 1)) + d) (by omega) (by omega)
    have p := ih (by omega)
    rw [show min (y i) (y (i + 1)) + ((d + 1 : Nat) : Int) = min (y i) (y (i + 1)) + d + 1 by omega]
    exact ⟨q.1.trans p.1, q.2.trans p.2⟩
theorem wd_lieC (hn : 4 ≤ n) (hp : rt_per n x y) (ha : rt_alt x y) (hf : rt_free n x y) {i : Nat} (hy : y i = y (i + 1)) {c e : Int} (h1 : min (x i) (x (i + 1)) ≤ c) (h2 : c < max (x i) (x (i + 1))) (h3 : min (x i) (x (i + 1)) ≤ e) (h4 : e < max (x i) (x (i + 1))) : wd n x y c (y i) = wd n x y e (y i) ∧ wd n x y c (y i - 1) = wd n x y e (y i - 1) := by
  have p := wd_lie hn hp ha hf hy (c - min (x i) (x (i + 1))).toNat (by omega)
  have q := wd_lie hn hp ha hf hy (e - min (x i) (x (i + 1))).toNat (by omega)
  rw [show min (x i) (x (i + 1)) + ((c - min (x i) (x (i + 1))).toNat : Int) = c by omega] at p
  rw [show min (x i) (x (i + 1)) + ((e - min (x i) (x (i + 1))).toNat : Int) = e by omega] at q
  exact ⟨p.1.trans q.1.symm, p.2.trans q.2.symm⟩
theorem wd_stdC (hn : 4 ≤ n) (hp : rt_per n x y) (ha : rt_alt x y) (hf : rt_free n x y) {i : Nat} (hx : x i = x (i + 1)) {c e : Int} (h1 : min (y i) (y (i + 1)) ≤ c) (h2 : c < max (y i) (y (i + 1))) (h3 : min (y i) (y (i + 1)) ≤ e) (h4 : e < max (y i) (y (i + 1))) : wd n x y (x i) c = wd n x y (x i) e ∧ wd n x y (x i - 1) c = wd n x y (x i - 1) e := by
  have p := wd_std hn hp ha hf hx (c - min (y i) (y (i + 1))).toNat (by omega)
  have q := wd_std hn hp ha hf hx (e - min (y i) (y (i + 1))).toNat (by omega)
  rw [show min (y i) (y (i + 1)) + ((c - min (y i) (y (i + 1))).toNat : Int) = c by omega] at p
  rw [show min (y i) (y (i + 1)) + ((e - min (y i) (y (i + 1))).toNat : Int) = e by omega] at q
  exact ⟨p.1.trans q.1.symm, p.2.trans q.2.symm⟩
/-- what is left of a side's first step, of its last step -/
def sLf (n : Nat) (x y : Nat → Int) (k : Nat) : Int := if y k = y (k + 1) then (if x k < x (k + 1) then wd n x y (x k) (y k) else wd n x y (x k - 1) (y k - 1)) else (if y k < y (k + 1) then wd n x y (x k - 1) (y k) else wd n x y (x k) (y k - 1))
def eLf (n : Nat) (x y : Nat → Int) (k : Nat) : Int := if y k = y (k + 1) then (if x k < x (k + 1) then wd n x y (x (k + 1) - 1) (y k) else wd n x y (x (k + 1)) (y k - 1)) else (if y k < y (k + 1) then wd n x y (x k - 1) (y (k + 1) - 1) else wd n x y (x k) (y (k + 1)))
theorem sLf_e (hn : 4 ≤ n) (hp : rt_per n x y) (ha : rt_alt x y) (hf : rt_free n x y) (k : Nat) : sLf n x y k = eLf n x y k := by
  unfold sLf eLf
  have q := ha k
  split
  · rename_i h
    split
    · exact (wd_lieC hn hp ha hf h (by omega) (by omega) (by omega) (by omega)).1
    · exact (wd_lieC hn hp ha hf h (by omega) (by omega) (by omega) (by omega)).2
  · rename_i h
    split
    · exact (wd_stdC hn hp ha hf (i := k) (by omega) (by omega) (by omega) (by omega) (by omega)).2
    · exact (wd_stdC hn hp ha hf (i := k) (by omega) (by omega) (by omega) (by omega) (by omega)).1
/-- around a corner -/
theorem wd_crn (hn : 4 ≤ n) (hp : rt_per n x y) (ha : rt_alt x y) (hf : rt_free n x y) (i : Nat) (a b : Int) (h1 : rt_on x y i a b) (h2 : rt_on x y (i + 1) a b) :
    (wd n x y a b - wd n x y (a - 1) b = cH x y a b i + cH x y a b (i + 1)) ∧ (wd n x y a (b - 1) - wd n x y (a - 1) (b - 1) = cH x y a (b - 1) i + cH x y a (b - 1) (i + 1)) ∧ (wd n x y a b - wd n x y a (b - 1) = cV x y a b i + cV x y a b (i + 1)) ∧ wd n x y (a - 1) b - wd n x y (a - 1) (b - 1) = cV x y (a - 1) b i + cV x y (a - 1) b (i + 1) := by
  have no : ¬ rt_on x y (i + (n - 1)) a b := by
    have := hf (i + 1) (n - 2) a b (by omega) (by omega) h2
    rw [show i + 1 + (n - 2) = i + (n - 1) by omega] at this
    exact this
  have z1 : cH x y a b (i + (n - 1)) = 0 := Decidable.byContradiction fun e => no (cH_on ha e).1
  have z2 : cH x y a (b - 1) (i + (n - 1)) = 0 := Decidable.byContradiction fun e => no (by have := (cH_on ha e).2; rw [show b - 1 + 1 = b by omega] at this; exact this)
  have z3 : cV x y a b (i + (n - 1)) = 0 := Decidable.byContradiction fun e => no (cV_on ha e).1
  have z4 : cV x y (a - 1) b (i + (n - 1)) = 0 := Decidable.byContradiction fun e => no (by have := (cV_on ha e).2; rw [show a - 1 + 1 = a by omega] at this; exact this)
  refine ⟨?_, ?_, ?_, ?_⟩
  · rw [wd_H hp ha, cH_3 hn hp ha hf (Or.inl h1)]; omega
  · rw [wd_H hp ha, cH_3 hn hp ha hf (i := i) (Or.inr (by rw [show b - 1 + 1 = b by omega]; exact h1))]; omega
  · rw [wd_V, cV_3 hn hp ha hf (Or.inl h1)]; omega
  · rw [wd_V, cV_3 hn hp ha hf (i := i) (Or.inr (by rw [show a - 1 + 1 = a by omega]; exact h1))]; omega
theorem dl_sp (a c : Int) : (a ≤ c ∧ dl a c = 1) ∨ (c < a ∧ dl a c = 0) := by
  unfold dl
  split <;> omega
theorem eLf_s (hn : 4 ≤ n) (hp : rt_per n x y) (ha : rt_alt x y) (hf : rt_free n x y) (k : Nat) : eLf n x y k = sLf n x y (k + 1) := by
  obtain ⟨q1, q2, q3, q4⟩ := wd_crn hn hp ha hf k (x (k + 1)) (y (k + 1)) (by unfold rt_on; omega) (by unfold rt_on; omega)
  unfold eLf sLf
  unfold cH cV at *
  rw [show k + 1 + 1 = k + 2 from rfl] at *
  rcases ha k with ⟨h1, h2, h3, h4⟩ | ⟨h1, h2, h3, h4⟩
  · rw [if_neg h2, if_pos h3]
    rw [if_pos h1, if_pos rfl, ← h3] at q1 q2
    rw [if_neg h2, if_pos rfl] at q3 q4
    rw [h1]
    have a1 := dl_sp (y (k + 1)) (y (k + 1)); have a2 := dl_sp (y k) (y (k + 1)); have a3 := dl_sp (y (k + 1)) (y (k + 1) - 1); have a4 := dl_sp (y k) (y (k + 1) - 1)
    have b1 := dl_sp (x (k + 1)) (x (k + 1)); have b2 := dl_sp (x (k + 2)) (x (k + 1)); have b3 := dl_sp (x (k + 1)) (x (k + 1) - 1); have b4 := dl_sp (x (k + 2)) (x (k + 1) - 1)
    rcases Int.lt_or_gt_of_ne h2 with h5 | h5 <;> rcases Int.lt_or_gt_of_ne h4 with h6 | h6
    · rw [if_pos h5, if_pos h6]; omega
    · rw [if_pos h5, if_neg (show ¬ x (k + 1) < x (k + 2) from Int.not_lt.mpr (Int.le_of_lt h6))]
    · rw [if_neg (show ¬ y k < y (k + 1) from Int.not_lt.mpr (Int.le_of_lt h5)), if_pos h6]
    · rw [if_neg (show ¬ y k < y (k + 1) from Int.not_lt.mpr (Int.le_of_lt h5)), if_neg (show ¬ x (k + 1) < x (k + 2) from Int.not_lt.mpr (Int.le_of_lt h6))]; omega
  · rw [if_pos h1, if_neg h4]
    rw [if_neg h2, if_pos rfl] at q1 q2
    rw [if_pos h1, if_pos rfl, ← h3] at q3 q4
    rw [h1]
    have a1 := dl_sp (y (k + 1)) (y (k + 1)); have a2 := dl_sp (y (k + 2)) (y (k + 1)); have a3 := dl_sp (y (k + 1)) (y (k + 1) - 1); have a4 := dl_sp (y (k + 2)) (y (k + 1) - 1)
    have b1 := dl_sp (x (k + 1)) (x (k + 1)); have b2 := dl_sp (x k) (x (k + 1)); have b3 := dl_sp (x (k + 1)) (x (k + 1) - 1); have b4 := dl_sp (x k) (x (k + 1) - 1)
    rcases Int.lt_or_gt_of_ne h2 with h5 | h5 <;> rcases Int.lt_or_gt_of_ne h4 with h6 | h6
    · rw [if_pos h5, if_pos h6]
    · rw [if_pos h5, if_neg (show ¬ y (k + 1) < y (k + 2) from Int.not_lt.mpr (Int.le_of_lt h6))]; omega
    · rw [if_neg (show ¬ x k < x (k + 1) from Int.not_lt.mpr (Int.le_of_lt h5)), if_pos h6]; omega
    · rw [if_neg (show ¬ x k < x (k + 1) from Int.not_lt.mpr (Int.le_of_lt h5)), if_neg (show ¬ y (k + 1) < y (k + 2) from Int.not_lt.mpr (Int.le_of_lt h6))]
theorem sLf_all (hn : 4 ≤ n) (hp : rt_per n x y) (ha : rt_alt x y) (hf : rt_free n x y) : ∀ k, sLf n x y k = sLf n x y 0 := by
  intro k
  induction k with
  | zero => rfl
  | succ k ih => rw [← eLf_s hn hp ha hf k, ← sLf_e hn hp ha hf k]; exact ih
/-- beside a lying side -/
theorem wd_nb (hn : 4 ≤ n) (hp : rt_per n x y) (ha : rt_alt x y) (hf : rt_free n x y) {k : Nat} (hy : y k = y (k + 1)) {c : Int} (h1 : min (x k) (x (k + 1)) ≤ c) (h2 : c < max (x k) (x (k + 1))) :
    (wd n x y c (y k) = sLf n x y 0 ∧ wd n x y c (y k - 1) = sLf n x y 0 - 1) ∨ (wd n x y c (y k - 1) = sLf n x y 0 ∧ wd n x y c (y k) = sLf n x y 0 - 1) := by
  have j := wd_V (n := n) (x := x) (y := y) c (y k)
  have pv := rt_prev hn hp k
  have pv2 := hp (k + 1)
  rw [show k + 1 + n = k + (n - 1) + 2 by omega] at pv2
  have a0 := ha k; have a2 := ha (k + (n - 1))
  rw [pv.1, pv.2, pv2.1, pv2.2] at a2
  rw [cV_3 hn hp ha hf (i := k) (by unfold rt_on; left; omega)] at j
  have e1 : cV x y c (y k) (k + 1) = 0 := by
    unfold cV; rw [show x (k + 1 + 1) = x (k + 1) from by rw [show k + 1 + 1 = k + 2 from rfl]; omega, Int.sub_self]; split <;> rfl
  have e2 : cV x y c (y k) (k + (n - 1)) = 0 := by
    unfold cV; rw [show x (k + (n - 1)) = x k from by omega, pv.1, Int.sub_self]; split <;> rfl
  have e0 : cV x y c (y k) k = dl (x k) c - dl (x (k + 1)) c := by unfold cV; rw [if_pos rfl]
  have l := sLf_all hn hp ha hf k
  unfold sLf at l
  rw [if_pos hy] at l
  have b1 := dl_sp (x k) c; have b2 := dl_sp (x (k + 1)) c
  rcases Int.lt_or_gt_of_ne (show x k ≠ x (k + 1) by omega) with h5 | h5
  · rw [if_pos h5, (wd_lieC hn hp ha hf hy (c := x k) (e := c) (by omega) (by omega) h1 h2).1] at l
    unfold sLf at *
    left; omega
  · rw [if_neg (show ¬ x k < x (k + 1) from Int.not_lt.mpr (Int.le_of_lt h5)), (wd_lieC hn hp ha hf hy (c := x k - 1) (e := c) (by omega) (by omega) h1 h2).2] at l
    unfold sLf at *
    right; omega
/-- a lowest lying side -/
theorem low_ex (y : Nat → Int) : ∀ n, 0 < n → ∃ k, k < n ∧ ∀ j, j < n → y k ≤ y j := by
  intro n
  induction n with
  | zero => intro h; omega
  | succ n ih =>
    intro _
    by_cases e : n = 0
    · subst e; exact ⟨0, by omega, fun j hj => by rw [show j = 0 by omega]; exact Int.le_refl _⟩
    · obtain ⟨k, hk, hm⟩ := ih (by omega)
      by_cases g : y k ≤ y n
      · exact ⟨k, by omega, fun j hj => by by_cases q : j = n; (subst q; exact g); exact hm j (by omega)⟩
      · exact ⟨n, by omega, fun j hj => by by_cases q : j = n; (subst q; exact Int.le_refl _); (have := hm j (by omega); omega)⟩
theorem rt_ge (hn : 4 ≤ n) (hp : rt_per n x y) {m : Int} (h : ∀ j, j < n → m ≤ y j) : ∀ j, m ≤ y j := by
  intro j
  induction j using Nat.strongRecOn with
  | ind j ih =>
    by_cases g : j < n
    · exact h j g
    · have := ih (j - n) (by omega)
      have q := (hp (j - n)).2
      rw [show j - n + n = j by omega] at q
      omega
theorem low_lie (hn : 4 ≤ n) (hp : rt_per n x y) (ha : rt_alt x y) : ∃ k, y k = y (k + 1) ∧ ∀ j, y k ≤ y j := by
  obtain ⟨k, _, hm⟩ := low_ex y n (by omega)
  have hm := rt_ge hn hp hm
  rcases ha k with ⟨_, _, h, _⟩ | ⟨h, _⟩
  · -- the side behind is lying; if it is not as low, the one before is
    have pv := rt_prev hn hp k
    have pv2 := hp (k + 1)
    rw [show k + 1 + n = k + (n - 1) + 2 by omega] at pv2
    have a2 := ha (k + (n - 1))
    rw [pv.1, pv.2, pv2.1, pv2.2] at a2
    refine ⟨k + (n - 1), ?_, fun j => ?_⟩
    · rw [pv.2]; omega
    · have := hm j; omega
  · exact ⟨k, h, hm⟩
theorem wd_low {c r : Int} (h : ∀ j, r < y j) : wd n x y c r = 0 := by
  unfold wd
  refine smI_zero n (fun k _ => ?_)
  have := h k
  rw [show dl (y k) r = 0 from if_neg (by omega), Int.mul_zero]
theorem wd_K (hn : 4 ≤ n) (hp : rt_per n x y) (ha : rt_alt x y) (hf : rt_free n x y) : (sLf n x y 0 = 0 ∨ sLf n x y 0 = 1) ∧ ∃ k, (∀ j, y k ≤ y j) ∧ y k = y (k + 1) := by
  obtain ⟨k, hk, hm⟩ := low_lie hn hp ha
  refine ⟨?_, k, hm, hk⟩
  have a0 := ha k
  have q := wd_nb hn hp ha hf hk (c := min (x k) (x (k + 1))) (by omega) (by omega)
  have z : wd n x y (min (x k) (x (k + 1))) (y k - 1) = 0 := wd_low (fun j => by have := hm j; omega)
  omega
/-- everywhere -/
theorem wd_all (hn : 4 ≤ n) (hp : rt_per n x y) (ha : rt_alt x y) (hf : rt_free n x y) {m : Int} (hm : ∀ j, m < y j) (c : Int) : ∀ d : Nat, wd n x y c (m + d) = 0 ∨ wd n x y c (m + d) = sLf n x y 0 ∨ wd n x y c (m + d) = sLf n x y 0 - 1 := by
  intro d
  induction d with
  | zero => left; rw [show m + ((0 : Nat) : Int) = m by omega]; exact wd_low hm
  | succ d ih =>
    rw [show m + ((d + 1 : Nat) : Int) = m + d + 1 by omega]
    by_cases e : ∃ k, y k = m + d + 1 ∧ y k = y (k + 1) ∧ min (x k) (x (k + 1)) ≤ c ∧ c < max (x k) (x (k + 1))
    · obtain ⟨k, e1, e2, e3, e4⟩ := e
      have q := wd_nb hn hp ha hf e2 e3 e4
      rw [e1] at q
      omega
    · have j := wd_V (n := n) (x := x) (y := y) c (m + d + 1)
      rw [smI_zero n (fun k _ => Decidable.byContradiction fun g => e ?_), show m + d + 1 - 1 = m + d by omega] at j
      · omega
      · have a0 := ha k
        have b1 := dl_sp (x k) c; have b2 := dl_sp (x (k + 1)) c
        unfold cV at g
        split at g
        · refine ⟨k, by assumption, ?_, ?_, ?_⟩ <;> omega
        · exact absurd rfl g
/-- the area, signed -/
def arI (n : Nat) (x y : Nat → Int) : Int := smI (fun k => x k * (y (k + 1) - y k)) n
theorem arI_wd (hp : rt_per n x y) (ha : rt_alt x y) (B : Nat) (hx : ∀ k, -(B : Int) ≤ x k ∧ x k ≤ B) (hy : ∀ k, -(B : Int) ≤ y k ∧ y k ≤ B) : smI (fun c : Nat => smI (fun r : Nat => wd n x y ((c : Int) - B) ((r : Int) - B)) (2 * B)) (2 * B) = arI n x y := by
  have e1 : ∀ c : Nat, smI (fun r : Nat => wd n x y ((c : Int) - B) ((r : Int) - B)) (2 * B) = smI (fun k => (dl (x k) ((c : Int) - B) - dl (x (k + 1)) ((c : Int) - B)) * (B - y k)) n := by
    intro c
    unfold wd
    rw [smI_swap (fun (r : Nat) (k : Nat) => (dl (x k) ((c : Int) - B) - dl (x (k + 1)) ((c : Int) - B)) * dl (y k) ((r : Int) - B))]
    refine smI_congr n (fun k _ => ?_)
    rw [smI_mulL, dl_sum B (y k) (hy k).1 (hy k).2]
  rw [smI_congr (2 * B) (fun c _ => e1 c), smI_swap (fun (c : Nat) (k : Nat) => (dl (x k) ((c : Int) - B) - dl (x (k + 1)) ((c : Int) - B)) * (B - y k))]
  have e2 : ∀ k, smI (fun c : Nat => (dl (x k) ((c : Int) - B) - dl (x (k + 1)) ((c : Int) - B)) * (B - y k)) (2 * B) = (x (k + 1) - x k) * (B - y k) := by
    intro k
    rw [smI_mul, smI_sub, dl_sum B (x k) (hx k).1 (hx k).2, dl_sum B (x (k + 1)) (hx (k + 1)).1 (hx (k + 1)).2]
    rw [show (B : Int) - x k - (B - x (k + 1)) = x (k + 1) - x k by omega]
  rw [smI_congr n (fun k _ => e2 k)]
  -- what goes round comes back
  have t1 := smI_tel x n
  have t2 := smI_tel (fun k => x k * y k) n
  have p0 := hp 0
  rw [Nat.zero_add] at p0
  rw [p0.1, Int.sub_self] at t1
  rw [p0.1, p0.2, Int.sub_self] at t2
  unfold arI
  have t3 : smI (fun k => (x (k + 1) - x k) * (B - y k)) n = smI (fun k => x k * (y (k + 1) - y k)) n + smI (fun k => (x k * y k - x (k + 1) * y (k + 1)) + (- (x k - x (k + 1)) * B)) n := by
    rw [← smI_add]
    refine smI_congr n (fun k _ => ?_)
    rcases ha k with ⟨h1, _⟩ | ⟨h1, _⟩
    · rw [← h1, Int.sub_self, Int.zero_mul, Int.neg_zero, Int.zero_mul, Int.mul_sub]; omega
    · rw [← h1, Int.sub_self, Int.mul_zero, Int.mul_sub, Int.neg_mul]
      rw [Int.sub_mul, Int.sub_mul, Int.sub_mul]
      omega
  rw [t3, smI_add, t2, smI_mul, smI_neg, t1]
  omega
/-- a right polygon has an area -/
theorem arI_ne (hn : 4 ≤ n) (hp : rt_per n x y) (ha : rt_alt x y) (hf : rt_free n x y) (B : Nat) (hx : ∀ k, -(B : Int) < x k ∧ x k < B) (hy : ∀ k, -(B : Int) < y k ∧ y k < B) : arI n x y ≠ 0 := by
  rw [← arI_wd hp ha B (fun k => by have := hx k; omega) (fun k => by have := hy k; omega)]
  obtain ⟨hK, k, hm, hk⟩ := wd_K hn hp ha hf
  have all : ∀ (c : Int) (r : Nat), wd n x y c ((r : Int) - B) = 0 ∨ wd n x y c ((r : Int) - B) = sLf n x y 0 ∨ wd n x y c ((r : Int) - B) = sLf n x y 0 - 1 := by
    intro c r
    have := wd_all hn hp ha hf (m := -(B : Int)) (fun j => by have := hy j; omega) c r
    rw [show -(B : Int) + r = (r : Int) - B by omega] at this
    exact this
  have a0 := ha k
  have hxk := hx k; have hxk1 := hx (k + 1); have hyk := hy k
  have nb := wd_nb hn hp ha hf hk (c := min (x k) (x (k + 1))) (by omega) (by omega)
  have z : wd n x y (min (x k) (x (k + 1))) (y k - 1) = 0 := wd_low (fun j => by have := hm j; omega)
  have cc : (((min (x k) (x (k + 1)) + B).toNat : Nat) : Int) - B = min (x k) (x (k + 1)) := by omega
  have rr : (((y k + B).toNat : Nat) : Int) - B = y k := by omega
  rcases hK with hK | hK
  · -- all of them at most 0
    have : 0 < smI (fun c : Nat => smI (fun r : Nat => - wd n x y ((c : Int) - B) ((r : Int) - B)) (2 * B)) (2 * B) := by
      refine smI_pos _ (fun c _ => smI_nn _ (fun r _ => by have := all ((c : Int) - B) r; omega)) (j := (min (x k) (x (k + 1)) + B).toNat) (by omega) ?_
      refine smI_pos _ (fun r _ => by have := all (((min (x k) (x (k + 1)) + B).toNat : Int) - B) r; omega) (j := (y k + B).toNat) (by omega) ?_
      rw [cc, rr]; omega
    rw [smI_congr _ (fun c _ => smI_neg _ _), smI_neg] at this
    omega
  · have : 0 < smI (fun c : Nat => smI (fun r : Nat => wd n x y ((c : Int) - B) ((r : Int) - B)) (2 * B)) (2 * B) := by
      refine smI_pos _ (fun c _ => smI_nn _ (fun r _ => by have := all ((c : Int) - B) r; omega)) (j := (min (x k) (x (k + 1)) + B).toNat) (by omega) ?_
      refine smI_pos _ (fun r _ => by have := all (((min (x k) (x (k + 1)) + B).toNat : Int) - B) r; omega) (j := (y k + B).toNat) (by omega) ?_
      rw [cc, rr]; omega
    omega
end WIND
