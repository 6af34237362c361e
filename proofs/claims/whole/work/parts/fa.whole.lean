section WHOLE
variable {nc np pl : Nat} {R : Nat → Bool} {hm p3 p4 : Nat → Nat} {ly vo ar : Nat → Int32} {mp : Nat → mvT} {sz : Nat → Nat} {X Y : Nat → Nat → Int} {fc : Nat → Nat → Nat} {oc : Nat → Nat → Option Nat} {rk : Nat → Nat}
theorem spn_cg {B D : Nat → Nat → Int} : ∀ n, (∀ i j, i < n → B i j = D i j) → ∀ j, spn B n j = spn D n j
  | 0, _, _ => rfl
  | n + 1, h, j => by
    have ih := spn_cg n (fun i j hi => h i j (by omega)) j
    show (if n = 0 then B 0 j else if j < 2 then min (spn B n j) (B n j) else max (spn B n j) (B n j)) = (if n = 0 then D 0 j else if j < 2 then min (spn D n j) (D n j) else max (spn D n j) (D n j))
    rw [ih, h n j (by omega)]
    by_cases e : n = 0
    · rw [if_pos e, if_pos e, h 0 j (by omega)]
    · rw [if_neg e, if_neg e]
theorem arW_cg {f : Nat → Int} {l1 : Int32} {O : List (List Nat × Nat)} : ∀ n, (∀ i, i < n → f (O.getD i ([], 0)).2 = (ar (O.getD i ([], 0)).2).toInt) → arW f ly l1 O n = arS ly ar l1 O n
  | 0, _ => rfl
  | n + 1, h => by
    show arW f ly l1 O n + _ = arS ly ar l1 O n + _
    rw [arW_cg n (fun i hi => h i (by omega)), h n (by omega)]
theorem dS_56 (kd : Nat) (h : kd = 5 ∨ kd = 6) (l1 l2 : Int32) (c : Nat) : dS np pl (dQ R hm ly kd l1 l2) p3 p4 16 c [] = dS np pl (rQ R hm) p3 p4 16 c [] := by
  rw [dS_fl]
  refine List.filter_eq_self.mpr (fun q _ => ?_)
  unfold lk
  exact decide_eq_true (by rcases h with h | h; exact Or.inl h; exact Or.inr (Or.inl h))
theorem bxW_e (H : lyh nc np pl R hm p3 p4 vo ar mp sz X Y fc oc rk) (c : Nat) {i : Nat} (hi : i < (dS np pl (rQ R hm) p3 p4 16 c []).length) (j : Nat) : bxW mp sz X Y (dS np pl (rQ R hm) p3 p4 16 c []) i j = bxO mp sz X Y ((dS np pl (rQ R hm) p3 p4 16 c []).getD i ([], 0)) j := by
  obtain ⟨_, _, _, _, a5⟩ := lyh_m H (getD_mem ([], 0) hi)
  have a0 := a5.1
  unfold bxW bxO
  rw [bxk_cr (by omega)]
  have e : crD mp X Y ((dS np pl (rQ R hm) p3 p4 16 c []).getD i ([], 0)) 0 = cor mp X Y ((dS np pl (rQ R hm) p3 p4 16 c []).getD i ([], 0)) := funext fun k => rfl
  rw [e]
theorem wh_w (H : lyh nc np pl R hm p3 p4 vo ar mp sz X Y fc oc rk) (c : Nat) : ∀ i, i < (dS np pl (rQ R hm) p3 p4 16 c []).length → bxW mp sz X Y (dS np pl (rQ R hm) p3 p4 16 c []) i 0 < bxW mp sz X Y (dS np pl (rQ R hm) p3 p4 16 c []) i 2 ∧ bxW mp sz X Y (dS np pl (rQ R hm) p3 p4 16 c []) i 1 < bxW mp sz X Y (dS np pl (rQ R hm) p3 p4 16 c []) i 3 := by
  intro i hi
  rw [bxW_e H c hi, bxW_e H c hi, bxW_e H c hi, bxW_e H c hi]
  obtain ⟨_, _, _, _, a5⟩ := lyh_m H (getD_mem ([], 0) hi)
  exact bx_w a5
theorem wh_b (H : lyh nc np pl R hm p3 p4 vo ar mp sz X Y fc oc rk) (c : Nat) (n : Nat) (hn : n ≤ (dS np pl (rQ R hm) p3 p4 16 c []).length) : (spn (bxW mp sz X Y (dS np pl (rQ R hm) p3 p4 16 c [])) n 0 ≤ spn (bxW mp sz X Y (dS np pl (rQ R hm) p3 p4 16 c [])) n 2 ∧ spn (bxW mp sz X Y (dS np pl (rQ R hm) p3 p4 16 c [])) n 1 ≤ spn (bxW mp sz X Y (dS np pl (rQ R hm) p3 p4 16 c [])) n 3) ∧ ∀ j, -200000 ≤ spn (bxW mp sz X Y (dS np pl (rQ R hm) p3 p4 16 c [])) n j ∧ spn (bxW mp sz X Y (dS np pl (rQ R hm) p3 p4 16 c [])) n j ≤ 200000 := by
  constructor
  · by_cases e : n = 0
    · subst e; exact ⟨Int.le_refl _, Int.le_refl _⟩
    · have := spW_w (wh_w H c) n hn (by omega)
      omega
  · intro j
    have key : ∀ m, m ≤ n → -200000 ≤ spn (bxW mp sz X Y (dS np pl (rQ R hm) p3 p4 16 c [])) m j ∧ spn (bxW mp sz X Y (dS np pl (rQ R hm) p3 p4 16 c [])) m j ≤ 200000 := by
      intro m
      induction m with
      | zero => intro _; show (-200000 : Int) ≤ 0 ∧ (0 : Int) ≤ 200000; omega
      | succ m ih =>
        intro hmn
        have a := ih (by omega)
        have b : -200000 ≤ bxW mp sz X Y (dS np pl (rQ R hm) p3 p4 16 c []) m j ∧ bxW mp sz X Y (dS np pl (rQ R hm) p3 p4 16 c []) m j ≤ 200000 := by
          rw [bxW_e H c (by omega)]
          obtain ⟨_, _, _, _, a5⟩ := lyh_m H (getD_mem ([], 0) (show m < (dS np pl (rQ R hm) p3 p4 16 c []).length by omega))
          have n0 : 0 < sz ((dS np pl (rQ R hm) p3 p4 16 c []).getD m ([], 0)).2 := by have := a5.1; omega
          have p := bx_le (mp := mp) (X := X) (Y := Y) n0
          have q := bx_bd n0 a5.2.2.2.2.2.2
          match j with
          | 0 => omega
          | 1 => omega
          | 2 => omega
          | j + 3 =>
            have e3 : bxO mp sz X Y ((dS np pl (rQ R hm) p3 p4 16 c []).getD m ([], 0)) (j + 3) = bxO mp sz X Y ((dS np pl (rQ R hm) p3 p4 16 c []).getD m ([], 0)) 3 := rfl
            rw [e3]; omega
        by_cases e : m = 0
        · subst e; rw [spW_0]; exact b
        · by_cases e2 : j < 2
          · rw [spW_l (by omega) e2]; omega
          · rw [spW_h (by omega) e2]; omega
    exact key n (Nat.le_refl n)
theorem wh_e (H : lyh nc np pl R hm p3 p4 vo ar mp sz X Y fc oc rk) (kd : Nat) (hkd : kd = 5 ∨ kd = 6) (l1 l2 x3 x4 x5 x6 : Int32) (c : Nat) : whQ kd x3 c (dS np pl (rQ R hm) p3 p4 16 c []).length (arW (fun p => arM (crR (fun k => (X p k, Y p k)) (sz p)) (sz p)) ly l1 (dS np pl (rQ R hm) p3 p4 16 c []) (dS np pl (rQ R hm) p3 p4 16 c []).length) (cnS ly l1 (dS np pl (rQ R hm) p3 p4 16 c []) (dS np pl (rQ R hm) p3 p4 16 c []).length) (spn (bxW mp sz X Y (dS np pl (rQ R hm) p3 p4 16 c [])) (dS np pl (rQ R hm) p3 p4 16 c []).length) = jWc kd l1 l2 x3 x4 x5 x6 np pl R hm p3 p4 ly vo ar mp sz X Y fc oc c ∧ ∀ l, l ∈ jWc kd l1 l2 x3 x4 x5 x6 np pl R hm p3 p4 ly vo ar mp sz X Y fc oc c → gr (c : Int) l := by
  have eS : spn (bxW mp sz X Y (dS np pl (rQ R hm) p3 p4 16 c [])) (dS np pl (rQ R hm) p3 p4 16 c []).length = spn (fun i9 j9 => bxO mp sz X Y ((dS np pl (rQ R hm) p3 p4 16 c []).getD i9 ([], 0)) j9) (dS np pl (rQ R hm) p3 p4 16 c []).length := funext fun j => spn_cg _ (fun i j hi => bxW_e H c hi j) j
  have eA : arW (fun p => arM (crR (fun k => (X p k, Y p k)) (sz p)) (sz p)) ly l1 (dS np pl (rQ R hm) p3 p4 16 c []) (dS np pl (rQ R hm) p3 p4 16 c []).length = arS ly ar l1 (dS np pl (rQ R hm) p3 p4 16 c []) (dS np pl (rQ R hm) p3 p4 16 c []).length := arW_cg _ (fun i hi => by
    obtain ⟨a1, a2, _⟩ := lyh_m H (getD_mem ([], 0) hi)
    exact arM_e H a1 a2)
  have hb := wh_b H c _ (Nat.le_refl (dS np pl (rQ R hm) p3 p4 16 c []).length)
  have hw := spW_w (wh_w H c) _ (Nat.le_refl (dS np pl (rQ R hm) p3 p4 16 c []).length)
  unfold jWc
  rw [dS_56 kd hkd l1 l2 c, ← eS, ← eA]
  generalize hs : spn (bxW mp sz X Y (dS np pl (rQ R hm) p3 p4 16 c [])) (dS np pl (rQ R hm) p3 p4 16 c []).length = s at hb hw
  generalize arW (fun p => arM (crR (fun k => (X p k, Y p k)) (sz p)) (sz p)) ly l1 (dS np pl (rQ R hm) p3 p4 16 c []) (dS np pl (rQ R hm) p3 p4 16 c []).length = A
  generalize cnS ly l1 (dS np pl (rQ R hm) p3 p4 16 c []) (dS np pl (rQ R hm) p3 p4 16 c []).length = n
  have s0 : (dS np pl (rQ R hm) p3 p4 16 c []).length = 0 → ∀ j, s j = 0 := fun e j => by rw [← hs, e]; rfl
  generalize (dS np pl (rQ R hm) p3 p4 16 c []).length = N at hw s0
  have em : mwW kd N A n s = mW kd A n ((s 2 - s 0) * (s 3 - s 1)) := by
    unfold mwW mW
    rcases hkd with rfl | rfl
    · rw [if_neg (by decide), if_pos rfl]
      by_cases e : N = 0
      · rw [if_pos e, if_neg (by rw [s0 e 2, s0 e 0, Int.sub_self, Int.zero_mul]; decide)]
      · have := hw (by omega)
        rw [if_neg e, if_pos (Int.mul_pos (by omega) (by omega))]
    · rw [if_pos rfl, if_neg (by decide)]
  have b0 := hb.2 0; have b1 := hb.2 1; have b2 := hb.2 2; have b3 := hb.2 3
  have hgr : ∀ m : Int, gr (c : Int) (rwI (s 0) (s 1) (s 2) (s 3) (-1) (-1) m (c : Int)) := fun m => ⟨s 0, s 1, s 2, s 3, -1, -1, m, rfl, hb.1, by omega, by omega, by omega, by omega⟩
  unfold whQ jWh
  rw [em]
  constructor
  · split
    · rw [gr_n (hgr _)]
    · rfl
  · intro l hl
    split at hl
    · rw [List.mem_singleton] at hl
      rw [hl]; exact hgr _
    · exact absurd hl (List.not_mem_nil)
/-- a whole cell's rows, cell by cell -/
def lcW (kd : Nat) (l1 l2 x3 x4 x5 x6 : Int32) (np pl : Nat) (R : Nat → Bool) (hm p3 p4 : Nat → Nat) (ly vo ar : Nat → Int32) (mp : Nat → mvT) (sz : Nat → Nat) (X Y : Nat → Nat → Int) (fc : Nat → Nat → Nat) (oc : Nat → Nat → Option Nat) (cl c : Nat) : List (List Int64) := if c = cl then jWc kd l1 l2 x3 x4 x5 x6 np pl R hm p3 p4 ly vo ar mp sz X Y fc oc cl else []
theorem lcW_r {β : Type} (L : List β) (cl : Nat) : ∀ n, cl < n → (List.range n).flatMap (fun c => if c = cl then L else []) = L
  | 0, h => absurd h (Nat.not_lt_zero _)
  | n + 1, h => by
    rw [List.range_succ, List.flatMap_append]
    show _ ++ ((if n = cl then L else []) ++ []) = L
    by_cases e : n = cl
    · rw [if_pos e, List.append_nil, fM_z _ (fun i hi => if_neg (by have := List.mem_range.mp hi; omega))]; rfl
    · rw [if_neg e, lcW_r L cl n (by omega)]; exact List.append_nil _
theorem lcW_low {kd : Nat} {l1 l2 x3 x4 x5 x6 : Int32} {cl : Nat} (hr : ∀ i, i < pl → rk (p4 i) < rk (p3 i)) : ∀ (f c : Nat) (w : List Nat), rk c < rk cl → lS pl p3 p4 mp (lcW kd l1 l2 x3 x4 x5 x6 np pl R hm p3 p4 ly vo ar mp sz X Y fc oc cl) f c w = []
  | 0, _, _, _ => rfl
  | f + 1, c, w, h => by
    rw [lS_s]
    have e : lcW kd l1 l2 x3 x4 x5 x6 np pl R hm p3 p4 ly vo ar mp sz X Y fc oc cl c = [] := if_neg (fun q => by rw [q] at h; omega)
    rw [e, fM_z _ (fun i hi => ?_)]; rfl
    by_cases q : p3 i = c
    · rw [if_pos q]
      have := hr i (List.mem_range.mp hi)
      rw [q] at this
      exact lcW_low hr f (p4 i) (w ++ [i]) (by omega)
    · rw [if_neg q]
theorem gr_rk {cl d : Nat} (hr : ∀ i, i < pl → rk (p4 i) < rk (p3 i)) (h : gr_R pl p3 p4 cl d) : rk d ≤ rk cl := h (fun d => rk d ≤ rk cl) (Nat.le_refl _) (fun i hi q => by have := hr i hi; omega)
theorem lcW_fl (H : lyh nc np pl R hm p3 p4 vo ar mp sz X Y fc oc rk) (kd : Nat) (hkd : kd = 5 ∨ kd = 6) (l1 l2 x3 x4 x5 x6 : Int32) (cl : Nat) : lS pl p3 p4 mp (lcW kd l1 l2 x3 x4 x5 x6 np pl R hm p3 p4 ly vo ar mp sz X Y fc oc cl) 16 cl [] = jWc kd l1 l2 x3 x4 x5 x6 np pl R hm p3 p4 ly vo ar mp sz X Y fc oc cl := by
  rw [lS_s]
  have e : lcW kd l1 l2 x3 x4 x5 x6 np pl R hm p3 p4 ly vo ar mp sz X Y fc oc cl cl = jWc kd l1 l2 x3 x4 x5 x6 np pl R hm p3 p4 ly vo ar mp sz X Y fc oc cl := if_pos rfl
  rw [e, show mvW mp [] = mvI from rfl, mp_n _ (wh_e H kd hkd l1 l2 x3 x4 x5 x6 cl).2, fM_z _ (fun i hi => ?_), List.append_nil]
  by_cases q : p3 i = cl
  · rw [if_pos q]
    have := H.2.2.2.1 i (List.mem_range.mp hi)
    rw [q] at this
    exact lcW_low H.2.2.2.1 15 (p4 i) ([] ++ [i]) (by omega)
  · rw [if_neg q]
/-- the class's rows cell by cell, whatever the rule -/
def lcA (kd : Nat) (l1 l2 x3 x4 x5 x6 : Int32) (np pl : Nat) (R : Nat → Bool) (hm p3 p4 : Nat → Nat) (ly vo ar : Nat → Int32) (mp : Nat → mvT) (sz : Nat → Nat) (X Y : Nat → Nat → Int) (fc : Nat → Nat → Nat) (oc : Nat → Nat → Option Nat) (nc : Nat) (g : Nat → Bool) (cl c : Nat) : List (List Int64) := if kd = 5 ∨ kd = 6 then lcW kd l1 l2 x3 x4 x5 x6 np pl R hm p3 p4 ly vo ar mp sz X Y fc oc cl c else lcC kd l1 l2 x3 x4 x5 x6 np pl R hm p3 p4 ly vo ar mp sz X Y fc oc nc g c
theorem lcA_w {kd : Nat} (h : kd = 5 ∨ kd = 6) (l1 l2 x3 x4 x5 x6 : Int32) (g : Nat → Bool) (cl : Nat) : lcA kd l1 l2 x3 x4 x5 x6 np pl R hm p3 p4 ly vo ar mp sz X Y fc oc nc g cl = lcW kd l1 l2 x3 x4 x5 x6 np pl R hm p3 p4 ly vo ar mp sz X Y fc oc cl := funext fun c => if_pos h
theorem lcA_c {kd : Nat} (h : ¬ (kd = 5 ∨ kd = 6)) (l1 l2 x3 x4 x5 x6 : Int32) (g : Nat → Bool) (cl : Nat) : lcA kd l1 l2 x3 x4 x5 x6 np pl R hm p3 p4 ly vo ar mp sz X Y fc oc nc g cl = lcC kd l1 l2 x3 x4 x5 x6 np pl R hm p3 p4 ly vo ar mp sz X Y fc oc nc g := funext fun c => if_neg h
/-- any rule -/
def rlk (kd : Nat) (l1 l2 x3 x5 : Int32) : Prop := kd < 11 ∧ (kd < 7 → l2 = l1) ∧ 0 ≤ x3.toInt ∧ (x5 = -1 ∨ 0 ≤ x5) ∧ (kd = 9 ∨ kd = 10 → x5 = -1)
theorem rlk_n {kd : Nat} {l1 l2 x3 x5 : Int32} (h : rlk kd l1 l2 x3 x5) (n : ¬ (kd = 5 ∨ kd = 6)) : nwk kd l1 l2 x3 x5 := ⟨by have := h.1; omega, h.2⟩
theorem lcA_all (H : lyh nc np pl R hm p3 p4 vo ar mp sz X Y fc oc rk) (kd : Nat) (l1 l2 x3 x4 x5 x6 : Int32) (K : rlk kd l1 l2 x3 x5) (cl : Nat) (hcl : cl < nc) (g : Nat → Bool) (hg : ∀ d, d < 16 → (g d = true ↔ gr_R pl p3 p4 cl d)) :
    jCol kd l1 l2 x3 x4 x5 x6 np pl R hm p3 p4 ly vo ar mp sz X Y fc oc nc g cl = (List.range 16).flatMap (lcA kd l1 l2 x3 x4 x5 x6 np pl R hm p3 p4 ly vo ar mp sz X Y fc oc nc g cl) ∧
    (∀ c l, l ∈ lcA kd l1 l2 x3 x4 x5 x6 np pl R hm p3 p4 ly vo ar mp sz X Y fc oc nc g cl c → gr (c : Int) l) ∧
    (∀ i, i < pl → gr_R pl p3 p4 cl (p3 i) → oc_n np pl R hm p3 p4 nc (p4 i) = 0 → ∀ f w, lS pl p3 p4 mp (lcA kd l1 l2 x3 x4 x5 x6 np pl R hm p3 p4 ly vo ar mp sz X Y fc oc nc g cl) f (p4 i) w = []) ∧
    (jCol kd l1 l2 x3 x4 x5 x6 np pl R hm p3 p4 ly vo ar mp sz X Y fc oc nc g cl).length ≤ (lS pl p3 p4 mp (lcA kd l1 l2 x3 x4 x5 x6 np pl R hm p3 p4 ly vo ar mp sz X Y fc oc nc g cl) 16 cl []).length ∧
    (fiQ 1 kd l1 l2 x3 x4 x5 x6 nc np pl R hm p3 p4 ly vo mp sz X Y g cl).Perm (lS pl p3 p4 mp (lcA kd l1 l2 x3 x4 x5 x6 np pl R hm p3 p4 ly vo ar mp sz X Y fc oc nc g cl) 16 cl []) ∧
    (fiQ 0 kd l1 l2 x3 x4 x5 x6 nc np pl R hm p3 p4 ly vo mp sz X Y g cl).Perm (jCol kd l1 l2 x3 x4 x5 x6 np pl R hm p3 p4 ly vo ar mp sz X Y fc oc nc g cl) ∧
    (∀ c, c < 16 → lcA kd l1 l2 x3 x4 x5 x6 np pl R hm p3 p4 ly vo ar mp sz X Y fc oc nc g cl c ≠ [] → gr_R pl p3 p4 cl c) := by
  have n16 := H.1
  have hr := H.2.2.2.1
  have hrk := H.2.2.2.2.1
  have hL : ∀ c, c < 16 → lcA kd l1 l2 x3 x4 x5 x6 np pl R hm p3 p4 ly vo ar mp sz X Y fc oc nc g cl c ≠ [] → gr_R pl p3 p4 cl c := by
    intro c hc hne
    by_cases k : kd = 5 ∨ kd = 6
    · rw [lcA_w k] at hne
      have e : c = cl := Decidable.of_not_not (fun q => hne (if_neg q))
      rw [e]
      exact fun S s0 _ => s0
    · rw [lcA_c k] at hne
      have e : c < nc ∧ g c = true := Decidable.of_not_not (fun q => hne (if_neg q))
      exact (hg c hc).mp e.2
  have e1 : jCol kd l1 l2 x3 x4 x5 x6 np pl R hm p3 p4 ly vo ar mp sz X Y fc oc nc g cl = (List.range 16).flatMap (lcA kd l1 l2 x3 x4 x5 x6 np pl R hm p3 p4 ly vo ar mp sz X Y fc oc nc g cl) := by
    by_cases k : kd = 5 ∨ kd = 6
    · rw [lcA_w k]
      unfold jCol
      rw [if_pos k]
      exact (lcW_r _ cl 16 (by omega)).symm
    · rw [lcA_c k]; exact lcC_col n16 kd k l1 l2 x3 x4 x5 x6 g cl
  refine ⟨e1, ?_, ?_, ?_, ?_, ?_, hL⟩
  · intro c l hl
    by_cases k : kd = 5 ∨ kd = 6
    · rw [lcA_w k] at hl
      unfold lcW at hl
      split at hl
      · next e => rw [e]; exact (wh_e H kd k l1 l2 x3 x4 x5 x6 cl).2 l hl
      · exact absurd hl (List.not_mem_nil)
    · rw [lcA_c k] at hl
      exact gr_lcC H kd l1 l2 x3 x4 x5 x6 (rlk_n K k) g c hl
  · intro i hi hre h0 f w
    by_cases k : kd = 5 ∨ kd = 6
    · rw [lcA_w k]
      exact lcW_low hr f (p4 i) w (by have := hr i hi; have := gr_rk hr hre; omega)
    · rw [lcA_c k]
      exact lcC_0 H kd l1 l2 x3 x4 x5 x6 (rlk_n K k) g f (p4 i) w (H.2.2.2.2.2.1 i hi).2 h0
  · rw [e1]
    exact by_fl hr mp _ cl (by have := hrk cl hcl; omega) hL
  · unfold fiQ
    by_cases k : kd = 5 ∨ kd = 6
    · rw [if_pos k, lcA_w k, lcW_fl H kd k, (wh_e (fc := fc) (oc := oc) H kd k l1 l2 x3 x4 x5 x6 cl).1]
    · rw [if_neg k, lcA_c k]
      refine List.Perm.trans (List.Perm.of_eq ?_) (fl_all H kd l1 l2 x3 x4 x5 x6 (rlk_n K k) cl hcl g hg)
      refine Eq.trans (fM_e _ (fun c _ => ?_)) (lcW_r (goQ 1 kd l1 l2 x3 x4 x5 x6 p4 ly vo mp sz X Y cl (dS np pl (rQ R hm) p3 p4 16 cl [])) cl nc hcl)
      by_cases e : c = cl
      · rw [if_pos (Or.inl ⟨by decide, e⟩), if_pos e, e]
      · rw [if_neg e, if_neg (fun z => by
          rcases z with z | z
          · exact e z.2
          · exact absurd z.1 (by decide))]
  · unfold fiQ
    by_cases k : kd = 5 ∨ kd = 6
    · rw [if_pos k, (wh_e (fc := fc) (oc := oc) H kd k l1 l2 x3 x4 x5 x6 cl).1]
      unfold jCol
      rw [if_pos k]
    · rw [if_neg k]
      refine List.Perm.trans (List.Perm.of_eq (fM_e _ (fun c _ => ?_))) (by_cells H kd l1 l2 x3 x4 x5 x6 (rlk_n K k) g cl)
      by_cases e : g c = true
      · rw [if_pos e, if_pos (Or.inr ⟨rfl, e⟩)]
      · rw [if_neg e, if_neg (fun z => by
          rcases z with z | z
          · exact absurd rfl z.1
          · exact e z.2)]
end WHOLE
