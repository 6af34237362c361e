theorem iwX7_looksAt_X7 : ∀ w ∈ wsX70, w ∈ wsX7_looksAt := by decide +kernel
theorem iwX8_put_X8 : ∀ w ∈ wsX80, w ∈ wsX8_put := by decide +kernel
theorem dX7_looksAt_0 : decode cX7_looksAt 0 = .ok (.aload_n 0, 1) := by decide +kernel
theorem dX7_looksAt_1 : decode cX7_looksAt 1 = .ok (.getfield 15, 3) := by decide +kernel
theorem dX7_looksAt_4 : decode cX7_looksAt 4 = .ok (.getfield 36, 3) := by decide +kernel
theorem dX7_looksAt_7 : decode cX7_looksAt 7 = .ok (.ifCond .ne 19, 3) := by decide +kernel
theorem dX7_looksAt_10 : decode cX7_looksAt 10 = .ok (.iload_n 1, 1) := by decide +kernel
theorem dX7_looksAt_11 : decode cX7_looksAt 11 = .ok (.aload_n 0, 1) := by decide +kernel
theorem dX7_looksAt_12 : decode cX7_looksAt 12 = .ok (.getfield 30, 3) := by decide +kernel
theorem dX7_looksAt_15 : decode cX7_looksAt 15 = .ok (.if_icmp .eq 11, 3) := by decide +kernel
theorem dX7_looksAt_18 : decode cX7_looksAt 18 = .ok (.iload_n 1, 1) := by decide +kernel
theorem dX7_looksAt_19 : decode cX7_looksAt 19 = .ok (.aload_n 0, 1) := by decide +kernel
theorem dX7_looksAt_20 : decode cX7_looksAt 20 = .ok (.getfield 33, 3) := by decide +kernel
theorem dX7_looksAt_23 : decode cX7_looksAt 23 = .ok (.if_icmp .ne 7, 3) := by decide +kernel
theorem dX7_looksAt_26 : decode cX7_looksAt 26 = .ok (.iconst 1, 1) := by decide +kernel
theorem dX7_looksAt_27 : decode cX7_looksAt 27 = .ok (.goto 4, 3) := by decide +kernel
theorem dX7_looksAt_30 : decode cX7_looksAt 30 = .ok (.iconst 0, 1) := by decide +kernel
theorem dX7_looksAt_31 : decode cX7_looksAt 31 = .ok (.ireturn, 1) := by decide +kernel
set_option maxRecDepth 20000 in
theorem ggX8_put_X4_copy : GoodIn wsX8_put wsX4_copy := goodIn_r _ [9, 10, 11, 12, 13, 28, 29, 30, 31] (by decide +kernel) (by decide +kernel)
set_option maxRecDepth 20000 in
theorem gX8_put_X4_copy : GoodIn wsX8_put (wsV RX8 139 RX4 yX4_copy wsX4_copy) := goodIn_app (goodIn_of _ (by decide +kernel)) ggX8_put_X4_copy
theorem dX8_put_0 : decode cX8_put 0 = .ok (.aload_n 0, 1) := by decide +kernel
theorem dX8_put_1 : decode cX8_put 1 = .ok (.getfield 56, 3) := by decide +kernel
theorem dX8_put_4 : decode cX8_put 4 = .ok (.bipush 100, 2) := by decide +kernel
theorem dX8_put_6 : decode cX8_put 6 = .ok (.if_icmp .ge 46, 3) := by decide +kernel
theorem dX8_put_9 : decode cX8_put 9 = .ok (.aload_n 0, 1) := by decide +kernel
theorem dX8_put_10 : decode cX8_put 10 = .ok (.getfield 17, 3) := by decide +kernel
theorem dX8_put_13 : decode cX8_put 13 = .ok (.aload_n 0, 1) := by decide +kernel
theorem dX8_put_14 : decode cX8_put 14 = .ok (.getfield 56, 3) := by decide +kernel
theorem dX8_put_17 : decode cX8_put 17 = .ok (.iload_n 1, 1) := by decide +kernel
theorem dX8_put_18 : decode cX8_put 18 = .ok (.iastore, 1) := by decide +kernel
theorem dX8_put_19 : decode cX8_put 19 = .ok (.aload_n 0, 1) := by decide +kernel
theorem dX8_put_20 : decode cX8_put 20 = .ok (.getfield 21, 3) := by decide +kernel
theorem dX8_put_23 : decode cX8_put 23 = .ok (.aload_n 0, 1) := by decide +kernel
theorem dX8_put_24 : decode cX8_put 24 = .ok (.getfield 56, 3) := by decide +kernel
theorem dX8_put_27 : decode cX8_put 27 = .ok (.iload_n 2, 1) := by decide +kernel
theorem dX8_put_28 : decode cX8_put 28 = .ok (.iastore, 1) := by decide +kernel
theorem dX8_put_29 : decode cX8_put 29 = .ok (.aload_n 0, 1) := by decide +kernel
theorem dX8_put_30 : decode cX8_put 30 = .ok (.getfield 24, 3) := by decide +kernel
theorem dX8_put_33 : decode cX8_put 33 = .ok (.aload_n 0, 1) := by decide +kernel
theorem dX8_put_34 : decode cX8_put 34 = .ok (.getfield 56, 3) := by decide +kernel
theorem dX8_put_37 : decode cX8_put 37 = .ok (.aaload, 1) := by decide +kernel
theorem dX8_put_38 : decode cX8_put 38 = .ok (.aload_n 3, 1) := by decide +kernel
theorem dX8_put_39 : decode cX8_put 39 = .ok (.invokevirtual 139, 3) := by decide +kernel
theorem dX8_put_42 : decode cX8_put 42 = .ok (.aload_n 0, 1) := by decide +kernel
theorem dX8_put_43 : decode cX8_put 43 = .ok (.dup, 1) := by decide +kernel
theorem dX8_put_44 : decode cX8_put 44 = .ok (.getfield 56, 3) := by decide +kernel
theorem dX8_put_47 : decode cX8_put 47 = .ok (.iconst 1, 1) := by decide +kernel
theorem dX8_put_48 : decode cX8_put 48 = .ok (.iadd, 1) := by decide +kernel
theorem dX8_put_49 : decode cX8_put 49 = .ok (.putfield 56, 3) := by decide +kernel
theorem dX8_put_52 : decode cX8_put 52 = .ok (.return_, 1) := by decide +kernel

abbrev mX7_looksAt : sv_M := (cX7_looksAt, 2, yX7_looksAt, wsX7_looksAt, (some .boolean), { frames := 0, cells := 0, slots := 0, locals := 0 }, [])
abbrev mX8_put : sv_M := (cX8_put, 4, yX8_put, wsX8_put, none, { frames := 1, cells := 0, slots := 0, locals := 30 }, [])
/-- what lies in cell c, so many places deep, the way there in front: polygons that Q takes -/
def dS (np pl : Nat) (Q : Nat → Nat → Bool) (p3 p4 : Nat → Nat) : Nat → Nat → List Nat → List (List Nat × Nat)
  | 0, _, _ => []
  | f + 1, c, w => ((List.range np).filter (Q c)).map (fun p => (w, p)) ++ (List.range pl).flatMap (fun i => if p3 i = c then dS np pl Q p3 p4 f (p4 i) (w ++ [i]) else [])
theorem dS_len {np pl : Nat} {Q : Nat → Nat → Bool} {R : Nat → Bool} {hm p3 p4 : Nat → Nat} (hQ : ∀ c p, Q c p = true → R p = true ∧ hm p = c) : ∀ f c w, (dS np pl Q p3 p4 f c w).length ≤ oc_n np pl R hm p3 p4 f c := by
  intro f
  induction f with
  | zero => intro c w; exact Nat.le_refl 0
  | succ f ih =>
    intro c w
    have a1 : ∀ n, ((List.range n).filter (Q c)).length ≤ oc_w R hm c n := by
      intro n
      induction n with
      | zero => exact Nat.le_refl 0
      | succ n i2 =>
        rw [List.range_succ, List.filter_append, List.length_append]
        by_cases e : Q c n = true
        · rw [oc_w1 (hQ c n e), List.filter_cons_of_pos e]
          show _ + 1 ≤ _
          omega
        · rw [List.filter_cons_of_neg (by simpa using e)]
          have : oc_w R hm c n ≤ oc_w R hm c (n + 1) := Nat.le_add_right _ _
          show _ + 0 ≤ _
          omega
    have a2 : ∀ n, ((List.range n).flatMap (fun i => if p3 i = c then dS np pl Q p3 p4 f (p4 i) (w ++ [i]) else [])).length ≤ oc_s p3 p4 (oc_n np pl R hm p3 p4 f) c n := by
      intro n
      induction n with
      | zero => exact Nat.le_refl 0
      | succ n i2 =>
        rw [List.range_succ, List.flatMap_append, List.length_append]
        by_cases e : p3 n = c
        · rw [oc_s1 e]
          have := ih (p4 n) (w ++ [n])
          simp only [List.flatMap_cons, List.flatMap_nil, List.append_nil, if_pos e]
          omega
        · rw [oc_s0 e]
          simp only [List.flatMap_cons, List.flatMap_nil, List.append_nil, if_neg e, List.length_nil]
          omega
    rw [dS, List.length_append, List.length_map]
    have := a1 np
    have := a2 pl
    show _ ≤ oc_w R hm c np + oc_s p3 p4 (oc_n np pl R hm p3 p4 f) c pl
    omega
theorem oc_mono {np pl : Nat} {R : Nat → Bool} {hm p3 p4 : Nat → Nat} : ∀ r c, oc_n np pl R hm p3 p4 r c ≤ oc_n np pl R hm p3 p4 (r + 1) c := by
  have key : ∀ (v w : Nat → Nat), (∀ d, v d ≤ w d) → ∀ c i, oc_s p3 p4 v c i ≤ oc_s p3 p4 w c i := by
    intro v w h c i
    induction i with
    | zero => exact Nat.le_refl 0
    | succ i ih =>
      unfold oc_s
      have := h (p4 i)
      split <;> omega
  intro r
  induction r with
  | zero => intro c; exact Nat.zero_le _
  | succ r ih =>
    intro c
    show oc_w R hm c np + _ ≤ oc_w R hm c np + _
    have := key _ _ ih c pl
    omega
theorem oc_mono2 {np pl : Nat} {R : Nat → Bool} {hm p3 p4 : Nat → Nat} {r q c : Nat} (h : r ≤ q) : oc_n np pl R hm p3 p4 r c ≤ oc_n np pl R hm p3 p4 q c := by
  obtain ⟨k, rfl⟩ := Nat.exists_eq_add_of_le h
  induction k with
  | zero => exact Nat.le_refl _
  | succ k ih => exact Nat.le_trans (ih (Nat.le_add_right r k)) (oc_mono _ _)
/-- the move of a way -/
def mvW (mp : Nat → mvT) (w : List Nat) : mvT := w.foldl (fun O i => mvJ O (mp i)) mvI
theorem mvW_s (mp : Nat → mvT) (w : List Nat) (i : Nat) : mvW mp (w ++ [i]) = mvJ (mvW mp w) (mp i) := by
  unfold mvW
  rw [List.foldl_append]; rfl
theorem mvW_q (mp : Nat → mvT) (w : List Nat) : (mvW mp w).2.1 < 4 := by
  have key : ∀ (w : List Nat) (O : mvT), O.2.1 < 4 → (w.foldl (fun O i => mvJ O (mp i)) O).2.1 < 4 := by
    intro w
    induction w with
    | nil => exact fun O h => h
    | cons i w ih => exact fun O h => ih _ (mvJ_q _ _)
  exact key w mvI (by decide)
/-- over which place a way goes -/
def brn : List Nat → Int32 | [] => -1 | i :: _ => nI i
theorem mvC_I : mvC mvI = some (.inr (2, [.int 0, .int 0, .int 0, .int 0])) := by
  show some (Sum.inr (2, [Value.int (if false = true then 1 else 0), Value.int (nI 0), Value.int (iN 0), Value.int (iN 0)])) = _
  rw [if_neg (by decide), nI_0, show iN 0 = 0 from by decide]
/-- the layout as a run sees it, at h0 -/
def sx_ (G : sv_G) (h0 : sv_h) (b : Nat) (k : Int32) (nc np pl : Nat) (R : Nat → Bool) (hm p3 p4 pa ma sz : Nat → Nat) (ly vo ar : Nat → Int32) (mp : Nat → mvT) (N : Nat → Nat) : Prop :=
  h0 (b + 1) = some (.inr (1, [.int k, .int (nI nc), .ref (b + 2), .int (nI np), .ref (b + 3), .ref (b + 4), .ref (b + 5), .int (nI pl), .ref (b + 6), .ref (b + 7)])) ∧ (∃ f, ab_Q G h0 (b + 2) 4 64 f ∧ ∀ p, p < np → f p = some (pa p)) ∧ (∃ f, ab_I G h0 (b + 3) 32 f ∧ ∀ i, i < pl → f i = nI (p3 i)) ∧ (∃ f, ab_I G h0 (b + 4) 32 f ∧ ∀ i, i < pl → f i = nI (p4 i)) ∧ (∃ f, ab_Q G h0 (b + 5) 3 32 f ∧ ∀ i, i < pl → f i = some (ma i)) ∧ (∃ f, ab_I G h0 (b + 6) 16 f ∧ ∀ c, c < nc → f c = nI (min 101 (N c))) ∧ (∀ p, p < np → h0 (pa p) = some (.inr (3, [.int (nI (hm p)), .int (ly p), .ref (pa p + 1), .ref (pa p + 2), .int (nI (sz p)), .int (vo p), .int (if R p = true then 1 else 0), .int (ar p), .ref (pa p + 3), .ref (pa p + 4)])) ∧ hm p < nc ∧ b + 262 ≤ pa p ∧ sz p ≤ 16) ∧ (∀ i, i < pl → h0 (ma i) = mvC (mp i) ∧ (mp i).2.1 < 4 ∧ p3 i < nc ∧ p4 i < nc ∧ b + 262 ≤ ma i) ∧ nc ≤ 16 ∧ np ≤ 64 ∧ pl ≤ 32
/-- the scene: S lies in it; the moves along the way w -/
def sc_ (G : sv_G) (b : Nat) (mp : Nat → mvT) (h0 h : sv_h) (w : List Nat) (S : List (List Nat × Nat)) : Prop :=
  S.length ≤ 100 ∧ h (b + 35) = some (.inr (6, [.ref (b + 1), .ref (b + 36), .int (nI S.length), .ref (b + 37), .ref (b + 38), .ref (b + 39), .ref (b + 40), .ref (b + 41), .ref (b + 42), .ref (b + 43), .ref (b + 44), .ref (b + 45), .ref (b + 46), .ref (b + 47)])) ∧
  (∃ f, ab_I G h (b + 37) 100 f ∧ ∀ i, i < S.length → f i = nI (S.getD i ([], 0)).2) ∧ (∃ f, ab_I G h (b + 38) 100 f ∧ ∀ i, i < S.length → f i = brn (S.getD i ([], 0)).1) ∧
  (∃ f, ab_Q G h (b + 36) 3 16 f ∧ ∀ i, i < 16 → f i = some (b + 48 + i)) ∧ (∃ f, ab_Q G h (b + 39) 3 100 f ∧ ∀ i, i < 100 → f i = some (b + 64 + i)) ∧
  (∀ i, i < 16 → ∃ x0 x1 x2 x3 : Int32, h (b + 48 + i) = some (.inr (2, [.int x0, .int x1, .int x2, .int x3]))) ∧ (∀ i, i ≤ w.length → h (b + 48 + i) = mvC (mvW mp (w.take i))) ∧
  (∀ i, i < 100 → ∃ x0 x1 x2 x3 : Int32, h (b + 64 + i) = some (.inr (2, [.int x0, .int x1, .int x2, .int x3]))) ∧ (∀ i, i < S.length → h (b + 64 + i) = mvC (mvW mp (S.getD i ([], 0)).1)) ∧
  ∀ a, ¬ (b + 35 ≤ a ∧ a < b + 39) → ¬ (b + 48 ≤ a ∧ a < b + 164) → h a = h0 a
theorem k_who : ∀ i, i < 11 → ([0, 0, 0, 0, 0, 1, 1, 0, 0, 0, 0] : List Int32).getD i 0 = (if i = 5 ∨ i = 6 then 1 else 0) := by decide
/-- does rule kd, with layers l1 and l2, look at layer l -/
def lk (kd : Nat) (l1 l2 l : Int32) : Bool := decide (kd = 5 ∨ kd = 6 ∨ l = l1 ∨ l = l2)
set_option maxHeartbeats 4000000 in
set_option maxRecDepth 100000 in
theorem c_looksAt (G : sv_G) (h : sv_h) (z q : Nat) (n0 : Int64) (kd : Nat) (hkd : kd < 11) (l1 l2 x3 x4 x5 x6 : Int32) (hru : h q = some (.inr (5, [.long n0, .ref (G.2.2.2.2.1 kd), .int l1, .int l2, .int x3, .int x4, .int x5, .int x6]))) (l : Int32) : CT G mX7_looksAt [.ref q, .int l] h z (fun v h1 z1 => v = some (.int (if lk kd l1 l2 l = true then 1 else 0)) ∧ h1 = h ∧ z1 = z) := by
  refine CT.of (by decide +kernel) rfl rfl (Nat.le_of_ble_eq_true rfl) ?_
  refine v_aload_n dX7_looksAt_0 rfl 0 rfl ?_
  refine v_getf 1 (ci := 5) (C := RX7) (T := TX7) (N := 8) rfl iwX7_looksAt_X7 (Nat.le_of_ble_eq_true rfl) (by decide +kernel) dX7_looksAt_1 (by first | with_reducible assumption) rfl ?_
  refine v_kint (q := ("RuleDeck$Kind", "whole", "Z", [0, 0, 0, 0, 0, 1, 1, 0, 0, 0, 0])) hkd (by decide) (k_who kd hkd) (by decide +kernel) dX7_looksAt_4 ?_
  refine v_if_ne (tgt := 26) dX7_looksAt_7 (by decide) (fun c_7 => ?_) (fun c_7 => ?_)
  · refine v_iconst (v := 1) dX7_looksAt_26 (by decide) ?_
    refine v_goto (tgt := 31) dX7_looksAt_27 (by decide) ?_
    exact v_iret rfl dX7_looksAt_31 (Nat.le_of_ble_eq_true rfl) (Nat.le_of_ble_eq_true rfl) rfl (by
      have hw : (kd = 5 ∨ kd = 6 ∨ l = l1 ∨ l = l2) ∨ ¬ (kd = 5 ∨ kd = 6 ∨ l = l1 ∨ l = l2) := Classical.em _
      rcases hw with hw | hw
      · rw [lk, decide_eq_true hw]
        first
          | exact ⟨rfl, rfl, rfl⟩
          | (have c9 : ¬ l = l2 := c_23; have c8 : ¬ l = l1 := c_15; have c7 := c_7; rcases hw with r | r | r | r
             · rw [if_pos (Or.inl r)] at c7; exact absurd c7 (by decide)
             · rw [if_pos (Or.inr r)] at c7; exact absurd c7 (by decide)
             · exact absurd r c8
             · exact absurd r c9)
      · rw [lk, decide_eq_false hw]
        first
          | exact ⟨rfl, rfl, rfl⟩
          | (have c9 : l = l2 := c_23; exact absurd (Or.inr (Or.inr (Or.inr c9))) hw)
          | (have c9 : l = l1 := c_15; exact absurd (Or.inr (Or.inr (Or.inl c9))) hw)
          | (have c9 := sv_ifn c_7; rcases c9 with r | r
             · exact absurd (Or.inl r) hw
             · exact absurd (Or.inr (Or.inl r)) hw))
  · refine v_iload_n dX7_looksAt_10 rfl 1 rfl ?_
    refine v_aload_n dX7_looksAt_11 rfl 0 rfl ?_
    refine v_getf 2 (ci := 5) (C := RX7) (T := TX7) (N := 8) rfl iwX7_looksAt_X7 (Nat.le_of_ble_eq_true rfl) (by decide +kernel) dX7_looksAt_12 (by first | with_reducible assumption) rfl ?_
    refine v_icmp_eq (tgt := 26) dX7_looksAt_15 (by decide) (fun c_15 => ?_) (fun c_15 => ?_)
    · refine v_iconst (v := 1) dX7_looksAt_26 (by decide) ?_
      refine v_goto (tgt := 31) dX7_looksAt_27 (by decide) ?_
      exact v_iret rfl dX7_looksAt_31 (Nat.le_of_ble_eq_true rfl) (Nat.le_of_ble_eq_true rfl) rfl (by
      have hw : (kd = 5 ∨ kd = 6 ∨ l = l1 ∨ l = l2) ∨ ¬ (kd = 5 ∨ kd = 6 ∨ l = l1 ∨ l = l2) := Classical.em _
      rcases hw with hw | hw
      · rw [lk, decide_eq_true hw]
        first
          | exact ⟨rfl, rfl, rfl⟩
          | (have c9 : ¬ l = l2 := c_23; have c8 : ¬ l = l1 := c_15; have c7 := c_7; rcases hw with r | r | r | r
             · rw [if_pos (Or.inl r)] at c7; exact absurd c7 (by decide)
             · rw [if_pos (Or.inr r)] at c7; exact absurd c7 (by decide)
             · exact absurd r c8
             · exact absurd r c9)
      · rw [lk, decide_eq_false hw]
        first
          | exact ⟨rfl, rfl, rfl⟩
          | (have c9 : l = l2 := c_23; exact absurd (Or.inr (Or.inr (Or.inr c9))) hw)
          | (have c9 : l = l1 := c_15; exact absurd (Or.inr (Or.inr (Or.inl c9))) hw)
          | (have c9 := sv_ifn c_7; rcases c9 with r | r
             · exact absurd (Or.inl r) hw
             · exact absurd (Or.inr (Or.inl r)) hw))
    · refine v_iload_n dX7_looksAt_18 rfl 1 rfl ?_
      refine v_aload_n dX7_looksAt_19 rfl 0 rfl ?_
      refine v_getf 3 (ci := 5) (C := RX7) (T := TX7) (N := 8) rfl iwX7_looksAt_X7 (Nat.le_of_ble_eq_true rfl) (by decide +kernel) dX7_looksAt_20 (by first | with_reducible assumption) rfl ?_
      refine v_icmp_ne (tgt := 30) dX7_looksAt_23 (by decide) (fun c_23 => ?_) (fun c_23 => ?_)
      · refine v_iconst (v := 0) dX7_looksAt_30 (by decide) ?_
        exact v_iret rfl dX7_looksAt_31 (Nat.le_of_ble_eq_true rfl) (Nat.le_of_ble_eq_true rfl) rfl (by
      have hw : (kd = 5 ∨ kd = 6 ∨ l = l1 ∨ l = l2) ∨ ¬ (kd = 5 ∨ kd = 6 ∨ l = l1 ∨ l = l2) := Classical.em _
      rcases hw with hw | hw
      · rw [lk, decide_eq_true hw]
        first
          | exact ⟨rfl, rfl, rfl⟩
          | (have c9 : ¬ l = l2 := c_23; have c8 : ¬ l = l1 := c_15; have c7 := c_7; rcases hw with r | r | r | r
             · rw [if_pos (Or.inl r)] at c7; exact absurd c7 (by decide)
             · rw [if_pos (Or.inr r)] at c7; exact absurd c7 (by decide)
             · exact absurd r c8
             · exact absurd r c9)
      · rw [lk, decide_eq_false hw]
        first
          | exact ⟨rfl, rfl, rfl⟩
          | (have c9 : l = l2 := c_23; exact absurd (Or.inr (Or.inr (Or.inr c9))) hw)
          | (have c9 : l = l1 := c_15; exact absurd (Or.inr (Or.inr (Or.inl c9))) hw)
          | (have c9 := sv_ifn c_7; rcases c9 with r | r
             · exact absurd (Or.inl r) hw
             · exact absurd (Or.inr (Or.inl r)) hw))
      · refine v_iconst (v := 1) dX7_looksAt_26 (by decide) ?_
        refine v_goto (tgt := 31) dX7_looksAt_27 (by decide) ?_
        exact v_iret rfl dX7_looksAt_31 (Nat.le_of_ble_eq_true rfl) (Nat.le_of_ble_eq_true rfl) rfl (by
      have hw : (kd = 5 ∨ kd = 6 ∨ l = l1 ∨ l = l2) ∨ ¬ (kd = 5 ∨ kd = 6 ∨ l = l1 ∨ l = l2) := Classical.em _
      rcases hw with hw | hw
      · rw [lk, decide_eq_true hw]
        first
          | exact ⟨rfl, rfl, rfl⟩
          | (have c9 : ¬ l = l2 := c_23; have c8 : ¬ l = l1 := c_15; have c7 := c_7; rcases hw with r | r | r | r
             · rw [if_pos (Or.inl r)] at c7; exact absurd c7 (by decide)
             · rw [if_pos (Or.inr r)] at c7; exact absurd c7 (by decide)
             · exact absurd r c8
             · exact absurd r c9)
      · rw [lk, decide_eq_false hw]
        first
          | exact ⟨rfl, rfl, rfl⟩
          | (have c9 : l = l2 := c_23; exact absurd (Or.inr (Or.inr (Or.inr c9))) hw)
          | (have c9 : l = l1 := c_15; exact absurd (Or.inr (Or.inr (Or.inl c9))) hw)
          | (have c9 := sv_ifn c_7; rcases c9 with r | r
             · exact absurd (Or.inl r) hw
             · exact absurd (Or.inr (Or.inl r)) hw))

set_option maxHeartbeats 4000000 in
set_option maxRecDepth 100000 in
theorem c_put (G : sv_G) (h0 h : sv_h) (z b : Nat) (mp : Nat → mvT) (w : List Nat) (S : List (List Nat × Nat)) (H : sc_ G b mp h0 h w S) (p : Nat) (hlen : S.length < 100) (hw : w.length < 16) : CT G mX8_put [.ref (b + 35), .int (nI p), .int (brn w), .ref (b + 48 + w.length)] h z (fun v h1 z1 => v = none ∧ z1 = z ∧ sc_ G b mp h0 h1 w (S ++ [(w, p)])) := by
  refine CT.of (by decide +kernel) rfl rfl (Nat.le_of_ble_eq_true rfl) ?_
  obtain ⟨s0, s1, ⟨fs, s2, s3⟩, ⟨fb, s4, s5⟩, ⟨fp, s6, s7⟩, ⟨fl, s8, s9⟩, sA, sB, sC, sD, sF⟩ := id H
  obtain ⟨y0, y1, y2, y3, hy⟩ := sC S.length hlen
  have hp9 : h (b + 48 + w.length) = mvC (mvW mp w) := by
    have := sB w.length (Nat.le_refl _)
    rwa [List.take_length] at this
  refine v_aload_n dX8_put_0 rfl 0 rfl ?_
  refine v_getf 2 (ci := 6) (C := RX8) (T := TX8) (N := 14) rfl iwX8_put_X8 (Nat.le_of_ble_eq_true rfl) (by decide +kernel) dX8_put_1 (by repeat (first | with_reducible assumption | (with_reducible refine sv_us.trans ?_; exact rfl) | with_reducible refine (sv_un (by omega)).trans ?_ | with_reducible refine (k2 _ (by omega)).trans ?_)) (by exact rfl) ?_
  refine v_bipush (v := 100) dX8_put_4 (by decide) ?_
  refine v_icmp_ge (tgt := 52) dX8_put_6 (by decide) (fun c_6 => ?_) (fun c_6 => ?_)
  · exact absurd c_6 (nI_ge (a := S.length) (b := 100) hlen (by decide))
  · refine v_aload_n dX8_put_9 rfl 0 rfl ?_
    refine v_getf 3 (ci := 6) (C := RX8) (T := TX8) (N := 14) rfl iwX8_put_X8 (Nat.le_of_ble_eq_true rfl) (by decide +kernel) dX8_put_10 (by repeat (first | with_reducible assumption | (with_reducible refine sv_us.trans ?_; exact rfl) | with_reducible refine (sv_un (by omega)).trans ?_ | with_reducible refine (k2 _ (by omega)).trans ?_)) (by exact rfl) ?_
    refine v_aload_n dX8_put_13 rfl 0 rfl ?_
    refine v_getf 2 (ci := 6) (C := RX8) (T := TX8) (N := 14) rfl iwX8_put_X8 (Nat.le_of_ble_eq_true rfl) (by decide +kernel) dX8_put_14 (by repeat (first | with_reducible assumption | (with_reducible refine sv_us.trans ?_; exact rfl) | with_reducible refine (sv_un (by omega)).trans ?_ | with_reducible refine (k2 _ (by omega)).trans ?_)) (by exact rfl) ?_
    refine v_iload_n dX8_put_17 rfl 1 rfl ?_
    refine v_iast dX8_put_18 (by repeat (first | with_reducible assumption | (with_reducible refine sv_us.trans ?_; exact rfl) | with_reducible refine (sv_un (by omega)).trans ?_ | with_reducible refine (k2 _ (by omega)).trans ?_)) (vp_in_nI hlen (by omega)) ?_
    refine v_aload_n dX8_put_19 rfl 0 rfl ?_
    refine v_getf 4 (ci := 6) (C := RX8) (T := TX8) (N := 14) rfl iwX8_put_X8 (Nat.le_of_ble_eq_true rfl) (by decide +kernel) dX8_put_20 (by repeat (first | with_reducible assumption | (with_reducible refine sv_us.trans ?_; exact rfl) | with_reducible refine (sv_un (by omega)).trans ?_ | with_reducible refine (k2 _ (by omega)).trans ?_)) (by exact rfl) ?_
    refine v_aload_n dX8_put_23 rfl 0 rfl ?_
    refine v_getf 2 (ci := 6) (C := RX8) (T := TX8) (N := 14) rfl iwX8_put_X8 (Nat.le_of_ble_eq_true rfl) (by decide +kernel) dX8_put_24 (by repeat (first | with_reducible assumption | (with_reducible refine sv_us.trans ?_; exact rfl) | with_reducible refine (sv_un (by omega)).trans ?_ | with_reducible refine (k2 _ (by omega)).trans ?_)) (by exact rfl) ?_
    refine v_iload_n dX8_put_27 rfl 2 rfl ?_
    refine v_iast dX8_put_28 (by repeat (first | with_reducible assumption | (with_reducible refine sv_us.trans ?_; exact rfl) | with_reducible refine (sv_un (by omega)).trans ?_ | with_reducible refine (k2 _ (by omega)).trans ?_)) (vp_in_nI hlen (by omega)) ?_
    refine v_aload_n dX8_put_29 rfl 0 rfl ?_
    refine v_getf 5 (ci := 6) (C := RX8) (T := TX8) (N := 14) rfl iwX8_put_X8 (Nat.le_of_ble_eq_true rfl) (by decide +kernel) dX8_put_30 (by repeat (first | with_reducible assumption | (with_reducible refine sv_us.trans ?_; exact rfl) | with_reducible refine (sv_un (by omega)).trans ?_ | with_reducible refine (k2 _ (by omega)).trans ?_)) (by exact rfl) ?_
    refine v_aload_n dX8_put_33 rfl 0 rfl ?_
    refine v_getf 2 (ci := 6) (C := RX8) (T := TX8) (N := 14) rfl iwX8_put_X8 (Nat.le_of_ble_eq_true rfl) (by decide +kernel) dX8_put_34 (by repeat (first | with_reducible assumption | (with_reducible refine sv_us.trans ?_; exact rfl) | with_reducible refine (sv_un (by omega)).trans ?_ | with_reducible refine (k2 _ (by omega)).trans ?_)) (by exact rfl) ?_
    refine v_aaldS (t := 3) (q := b + 64 + S.length) dX8_put_37 (fun _ => rfl) (by repeat (first | with_reducible assumption | (with_reducible refine sv_us.trans ?_; exact rfl) | with_reducible refine (sv_un (by omega)).trans ?_ | with_reducible refine (k2 _ (by omega)).trans ?_)) (vp_in_nI hlen (by omega)) (by rw [nI_clamp (by omega)]; exact s9 _ (by omega)) ?_
    refine v_aload_n dX8_put_38 rfl 3 rfl ?_
    refine v_callVq (M' := mX4_copy) (n := 1) (As := [_]) (ci := 2) (r := (RX4, TX4, 4)) gX8_put_X4_copy rfl (by decide +kernel) ⟨(Nat.le_of_ble_eq_true rfl), (Nat.le_of_ble_eq_true rfl)⟩ rfl rfl dX8_put_39 rfl ⟨(Nat.le_of_ble_eq_true rfl), (Nat.le_of_ble_eq_true rfl)⟩ (Nat.le_of_ble_eq_true rfl) (by repeat (first | with_reducible assumption | (with_reducible refine sv_us.trans ?_; exact rfl) | with_reducible refine (sv_un (by omega)).trans ?_ | with_reducible refine (k2 _ (by omega)).trans ?_)) rfl (c_copy G _ z (b + 64 + S.length) (b + 48 + w.length) (mvW mp w) (by omega) y0 y1 y2 y3 ((sv_un (by omega)).trans ((sv_un (by omega)).trans (hy))) ((sv_un (by omega)).trans ((sv_un (by omega)).trans (hp9)))) (fun v h1 z1 hq => ?_)
    obtain ⟨rfl, rfl, k1, k2⟩ := hq
    refine v_aload_n dX8_put_42 rfl 0 rfl ?_
    refine v_dup dX8_put_43 rfl ?_
    refine v_getf 2 (ci := 6) (C := RX8) (T := TX8) (N := 14) rfl iwX8_put_X8 (Nat.le_of_ble_eq_true rfl) (by decide +kernel) dX8_put_44 (by repeat (first | with_reducible assumption | (with_reducible refine sv_us.trans ?_; exact rfl) | with_reducible refine (sv_un (by omega)).trans ?_ | with_reducible refine (k2 _ (by omega)).trans ?_)) (by exact rfl) ?_
    refine v_iconst (v := 1) dX8_put_47 (by decide) ?_
    refine v_iadd dX8_put_48 ?_
    rw [nI_1]
    refine v_putf 2 (fs' := [_, _, _, _, _, _, _, _, _, _, _, _, _, _]) (ci := 6) (C := RX8) (T := TX8) (N := 14) (ty := .int) rfl iwX8_put_X8 tyX8 tyX8_ok nmX8 (Nat.le_of_ble_eq_true rfl) (by decide +kernel) rfl rfl dX8_put_49 rfl rfl (by repeat (first | with_reducible assumption | (with_reducible refine sv_us.trans ?_; exact rfl) | with_reducible refine (sv_un (by omega)).trans ?_ | with_reducible refine (k2 _ (by omega)).trans ?_)) (Nat.le_of_ble_eq_true rfl) rfl ?_
    exact v_ret rfl dX8_put_52 (Nat.le_of_ble_eq_true rfl) (Nat.le_of_ble_eq_true rfl) (by
    have hl : (S ++ [(w, p)]).length = S.length + 1 := by rw [List.length_append]; rfl
    have ecl : (nI S.length).toNatClampNeg = S.length := nI_clamp (by omega)
    refine ⟨rfl, rfl, by omega, ?_, ⟨_, (sv_un (by omega)).trans ((k2 _ (by omega)).trans ((sv_un (by omega)).trans sv_us)), fun i hi => ?_⟩, ⟨_, (sv_un (by omega)).trans ((k2 _ (by omega)).trans sv_us), fun i hi => ?_⟩, ⟨fp, (sv_un (by omega)).trans ((k2 _ (by omega)).trans ((sv_un (by omega)).trans ((sv_un (by omega)).trans (s6)))), s7⟩, ⟨fl, (sv_un (by omega)).trans ((k2 _ (by omega)).trans ((sv_un (by omega)).trans ((sv_un (by omega)).trans (s8)))), s9⟩, fun i hi => ?_, fun i hi => ?_, fun i hi => ?_, fun i hi => ?_, fun a p1 p2 => ?_⟩
    · rw [hl]; exact sv_us
    · by_cases e : i = S.length
      · rw [e, gd_n, ecl]; exact if_pos rfl
      · rw [gd_l _ _ _ (show i < S.length by omega), ecl]; exact (if_neg e).trans (s3 i (by omega))
    · by_cases e : i = S.length
      · rw [e, gd_n, ecl]; exact if_pos rfl
      · rw [gd_l _ _ _ (show i < S.length by omega), ecl]; exact (if_neg e).trans (s5 i (by omega))
    · obtain ⟨x0, x1, x2, x3, hx⟩ := sA i hi
      exact ⟨x0, x1, x2, x3, (sv_un (by omega)).trans ((k2 _ (by omega)).trans ((sv_un (by omega)).trans ((sv_un (by omega)).trans (hx))))⟩
    · exact (sv_un (by omega)).trans ((k2 _ (by omega)).trans ((sv_un (by omega)).trans ((sv_un (by omega)).trans (sB i hi))))
    · by_cases e : i = S.length
      · rw [e]
        exact ⟨_, _, _, _, (sv_un (by omega)).trans k1⟩
      · obtain ⟨x0, x1, x2, x3, hx⟩ := sC i hi
        exact ⟨x0, x1, x2, x3, (sv_un (by omega)).trans ((k2 _ (by omega)).trans ((sv_un (by omega)).trans ((sv_un (by omega)).trans (hx))))⟩
    · by_cases e : i = S.length
      · rw [e, gd_n]; exact (sv_un (by omega)).trans k1
      · rw [gd_l _ _ _ (show i < S.length by omega)]
        exact (sv_un (by omega)).trans ((k2 _ (by omega)).trans ((sv_un (by omega)).trans ((sv_un (by omega)).trans (sD i (by omega)))))
    · exact (sv_un (by omega)).trans ((k2 _ (by omega)).trans ((sv_un (by omega)).trans ((sv_un (by omega)).trans (sF a p1 p2)))))

