/-- the constants of Kind lie apart -/
def sv_ki (G : sv_G) : Prop := ∀ i j, i < 11 → j < 11 → G.2.2.2.2.1 i = G.2.2.2.2.1 j → i = j
/-- rule n is the first of its kind -/
def kn_fr (f : Nat → Int32) (n : Nat) : Prop := ∀ j, j < n → f j ≠ f n
/-- how many of the first n rules are the first of their kind -/
def kn_a (f : Nat → Int32) : Nat → Nat
  | 0 => 0
  | n + 1 => kn_a f n + (if (∀ j, j < n → f j ≠ f n) then 1 else 0)
/-- how many of the first k kinds are among the first n rules -/
def kn_b (f : Nat → Int32) (n : Nat) : Nat → Nat
  | 0 => 0
  | k + 1 => kn_b f n k + (if (∃ j, j < n ∧ f j = nI k) then 1 else 0)
theorem kn_a1 {f : Nat → Int32} {n : Nat} (h : kn_fr f n) : kn_a f (n + 1) = kn_a f n + 1 := by
  show _ + (if (∀ j, j < n → f j ≠ f n) then 1 else 0) = _
  rw [if_pos (show ∀ j, j < n → f j ≠ f n from h)]
theorem kn_a0 {f : Nat → Int32} {n : Nat} (h : ¬ kn_fr f n) : kn_a f (n + 1) = kn_a f n := by
  show _ + (if (∀ j, j < n → f j ≠ f n) then 1 else 0) = _
  rw [if_neg (show ¬ ∀ j, j < n → f j ≠ f n from h)]; rfl
theorem kn_b1 {f : Nat → Int32} {n k : Nat} (h : ∃ j, j < n ∧ f j = nI k) : kn_b f n (k + 1) = kn_b f n k + 1 := by
  show _ + (if (∃ j, j < n ∧ f j = nI k) then 1 else 0) = _
  rw [if_pos h]
theorem kn_b0 {f : Nat → Int32} {n k : Nat} (h : ¬ ∃ j, j < n ∧ f j = nI k) : kn_b f n (k + 1) = kn_b f n k := by
  show _ + (if (∃ j, j < n ∧ f j = nI k) then 1 else 0) = _
  rw [if_neg h]; rfl
theorem kn_bz (f : Nat → Int32) : ∀ k, kn_b f 0 k = 0
  | 0 => rfl
  | k + 1 => by rw [kn_b0 (fun ⟨j, hj, _⟩ => absurd hj (Nat.not_lt_zero j))]; exact kn_bz f k
theorem kn_bs (f : Nat → Int32) (n q : Nat) (hq : q < 2 ^ 31) (hf : f n = nI q) : ∀ k, k ≤ 11 → kn_b f (n + 1) k = kn_b f n k + (if (q < k ∧ ∀ j, j < n → f j ≠ f n) then 1 else 0)
  | 0 => fun _ => by rw [if_neg (fun r => absurd r.1 (Nat.not_lt_zero q))]; rfl
  | k + 1 => by
    intro hk
    have ih := kn_bs f n q hq hf k (by omega)
    by_cases e : k = q
    · subst e
      rw [if_neg (fun r => absurd r.1 (by omega))] at ih
      rw [kn_b1 ⟨n, by omega, hf⟩, ih]
      by_cases hfr : ∀ j, j < n → f j ≠ f n
      · rw [if_pos ⟨by omega, hfr⟩, kn_b0 (fun ⟨j, hj, r⟩ => hfr j hj (r.trans hf.symm))]
      · rw [if_neg (fun r => hfr r.2), kn_b1 ?_]
        exact Classical.byContradiction fun r => hfr (fun j hj w => r ⟨j, hj, w.trans hf⟩)
    · have hx : (∃ j, j < n + 1 ∧ f j = nI k) ↔ ∃ j, j < n ∧ f j = nI k := by
        constructor
        · rintro ⟨j, hj, r⟩
          by_cases w : j = n
          · rw [w, hf] at r
            exact absurd ((nI_eq hq (by omega)).mp r).symm e
          · exact ⟨j, by omega, r⟩
        · rintro ⟨j, hj, r⟩
          exact ⟨j, by omega, r⟩
      have hy : (q < k + 1 ∧ ∀ j, j < n → f j ≠ f n) ↔ (q < k ∧ ∀ j, j < n → f j ≠ f n) := ⟨fun r => ⟨by have := r.1; omega, r.2⟩, fun r => ⟨by have := r.1; omega, r.2⟩⟩
      by_cases w : ∃ j, j < n ∧ f j = nI k
      · rw [kn_b1 (hx.mpr w), kn_b1 w, ih]
        simp only [hy]; omega
      · rw [kn_b0 (fun r => w (hx.mp r)), kn_b0 w, ih]
        simp only [hy]
theorem kn_ab (f : Nat → Int32) : ∀ n, (∀ i, i < n → ∃ q, q < 11 ∧ f i = nI q) → kn_b f n 11 = kn_a f n
  | 0 => fun _ => kn_bz f 11
  | n + 1 => by
    intro H
    obtain ⟨q, hq, hf⟩ := H n (by omega)
    rw [kn_bs f n q (by omega) hf 11 (by omega), kn_ab f n (fun i hi => H i (by omega))]
    show _ = kn_a f n + (if (∀ j, j < n → f j ≠ f n) then 1 else 0)
    have : (q < 11 ∧ ∀ j, j < n → f j ≠ f n) ↔ ∀ j, j < n → f j ≠ f n := ⟨fun r => r.2, fun r => ⟨hq, r⟩⟩
    simp only [this]
set_option maxHeartbeats 4000000 in
set_option maxRecDepth 100000 in
theorem l_kinds1 (G : sv_G) (hki : sv_ki G) (Qr : Option Value → sv_h → Nat → Prop) (h : sv_h) (z b n i : Nat) (c1 : Int32) (f : Nat → Int32) (q ru : Nat) (fr : Nat → Option Nat) (hr1 : ab_Q G h ru 5 20 fr) (hr2 : ∀ j, j < 20 → fr j = some (q + j)) (hn : n ≤ 20) (hr3 : ∀ i, i < n → ∃ kd, kd < 11 ∧ f i = nI kd ∧ ∃ (nm : Int64) (x1 x2 x3 x4 x5 x6 : Int32), h (q + i) = some (.inr (5, [.long nm, .ref (G.2.2.2.2.1 kd), .int x1, .int x2, .int x3, .int x4, .int x5, .int x6]))) (ly tp rd ck wv la fo fl lo : Nat) (lr lf : Int32) (hb : h b = some (.inr (10, [.ref ly, .ref tp, .ref rd, .ref ck, .ref wv, .ref ru, .int (nI n), .int lr, .int lf, .ref la, .ref fo, .ref fl, .ref lo]))) (hi : i < n) (hk : ∀ w : Int32, ((w = 1 ∧ kn_fr f i) ∨ (w = 0 ∧ ¬ kn_fr f i)) → V G mX12_kindsInUse (sv_MQ G mX12_kindsInUse Qr) 61 [(4, .int (nI i)), (3, .int w), (2, .int (nI i)), (1, .int c1), (0, .ref b)] [] h z 0 0) : ∀ (c j : Nat) (w : Int32), j + c = i → ((w = 1 ∧ ∀ q, q < j → f q ≠ f i) ∨ (w = 0 ∧ ¬ kn_fr f i)) → V G mX12_kindsInUse (sv_MQ G mX12_kindsInUse Qr) 17 [(4, .int (nI j)), (3, .int w), (2, .int (nI i)), (1, .int c1), (0, .ref b)] [] h z 0 0 := by
  obtain ⟨ki, ki1, ki2, ai0, ai1, ai2, ai3, ai4, ai5, ai6, ki3⟩ := hr3 i hi
  intro c
  induction c with
  | zero =>
    intro j w hjc hw
    refine v_iload dX12_kindsInUse_17 0 rfl ?_
    refine v_iload_n dX12_kindsInUse_19 rfl 2 rfl ?_
    refine v_icmp_ge (tgt := 61) dX12_kindsInUse_20 (by decide) (fun c_20 => ?_) (fun c_20 => ?_)
    · (obtain rfl : j = i := by omega)
      exact hk w hw
    · exact absurd (show nI i ≤ nI j from nI_le (by omega) (by omega)) c_20
  | succ c ih =>
    intro j w hjc hw
    obtain ⟨kj, kj1, kj2, aj0, aj1, aj2, aj3, aj4, aj5, aj6, kj3⟩ := hr3 j (by omega)
    refine v_iload dX12_kindsInUse_17 0 rfl ?_
    refine v_iload_n dX12_kindsInUse_19 rfl 2 rfl ?_
    refine v_icmp_ge (tgt := 61) dX12_kindsInUse_20 (by decide) (fun c_20 => ?_) (fun c_20 => ?_)
    · exact absurd c_20 (nI_ge (by omega) (by omega))
    · refine v_iload_n dX12_kindsInUse_23 rfl 1 rfl ?_
      refine v_if_eq (tgt := 53) dX12_kindsInUse_24 (by decide) (fun c_24 => ?_) (fun c_24 => ?_)
      · refine v_iconst (v := 0) dX12_kindsInUse_53 (by decide) ?_
        refine v_istore_n (L' := [(3, _), (4, _), (2, _), (1, _), (0, _)]) dX12_kindsInUse_54 rfl (Nat.le_of_ble_eq_true rfl) rfl ?_
        refine v_iinc (j := 1) (L' := [(4, _), (3, _), (2, _), (1, _), (0, _)]) (v := nI (j + 1)) dX12_kindsInUse_55 rfl (nI_1 _) (Nat.le_of_ble_eq_true rfl) rfl ?_
        refine v_goto (tgt := 17) dX12_kindsInUse_58 (by decide) ?_
        refine v_sub (L' := [(4, _), (3, _), (2, _), (1, _), (0, _)]) [0, 1, 2, 3, 4] rfl ?_
        refine ih (j + 1) _ (by omega) ?_
        first
        | exact Or.inr ⟨rfl, (hw.resolve_left (fun r => by rw [r.1] at c_24; exact absurd c_24 (by decide))).2⟩
        | (refine Or.inr ⟨rfl, fun r => r j (by omega) ?_⟩; rw [kj2, ki2, hki kj ki kj1 ki1 (Option.some.inj c_46)])
        | (refine Or.inl ⟨rfl, fun q0 hq0 => ?_⟩
           by_cases e : q0 = j
           · rw [e, kj2, ki2]; exact fun r => c_46 (by rw [(nI_eq (by omega) (by omega)).mp r])
           · exact (hw.resolve_right (fun r => c_24 r.1)).2 q0 (by omega))
      · refine v_aload_n dX12_kindsInUse_27 rfl 4 rfl ?_
        refine v_getf 5 (ci := 10) (C := RX12) (T := TX12) (N := 13) rfl iwX12_kindsInUse_X12 (Nat.le_of_ble_eq_true rfl) (by decide +kernel) dX12_kindsInUse_28 (by repeat (first | (with_reducible refine sv_us.trans ?_; exact rfl) | with_reducible assumption | with_reducible refine (sv_un (by omega)).trans ?_)) rfl ?_
        refine v_iload dX12_kindsInUse_31 0 rfl ?_
        refine v_aaldS (t := 5) (q := q + j) dX12_kindsInUse_33 (fun _ => rfl) (by repeat (first | (with_reducible refine sv_us.trans ?_; exact rfl) | with_reducible assumption | with_reducible refine (sv_un (by omega)).trans ?_)) (vp_in_nI (by omega) (by omega)) (by rw [nI_clamp (by omega)]; exact hr2 j (by omega)) ?_
        refine v_getf 1 (ci := 5) (C := RX7) (T := TX7) (N := 8) rfl iwX12_kindsInUse_X7 (Nat.le_of_ble_eq_true rfl) (by decide +kernel) dX12_kindsInUse_34 (by repeat (first | (with_reducible refine sv_us.trans ?_; exact rfl) | with_reducible assumption | with_reducible refine (sv_un (by omega)).trans ?_)) rfl ?_
        refine v_aload_n dX12_kindsInUse_37 rfl 4 rfl ?_
        refine v_getf 5 (ci := 10) (C := RX12) (T := TX12) (N := 13) rfl iwX12_kindsInUse_X12 (Nat.le_of_ble_eq_true rfl) (by decide +kernel) dX12_kindsInUse_38 (by repeat (first | (with_reducible refine sv_us.trans ?_; exact rfl) | with_reducible assumption | with_reducible refine (sv_un (by omega)).trans ?_)) rfl ?_
        refine v_iload_n dX12_kindsInUse_41 rfl 2 rfl ?_
        refine v_aaldS (t := 5) (q := q + i) dX12_kindsInUse_42 (fun _ => rfl) (by repeat (first | (with_reducible refine sv_us.trans ?_; exact rfl) | with_reducible assumption | with_reducible refine (sv_un (by omega)).trans ?_)) (vp_in_nI (by omega) (by omega)) (by rw [nI_clamp (by omega)]; exact hr2 i (by omega)) ?_
        refine v_getf 1 (ci := 5) (C := RX7) (T := TX7) (N := 8) rfl iwX12_kindsInUse_X7 (Nat.le_of_ble_eq_true rfl) (by decide +kernel) dX12_kindsInUse_43 (by repeat (first | (with_reducible refine sv_us.trans ?_; exact rfl) | with_reducible assumption | with_reducible refine (sv_un (by omega)).trans ?_)) rfl ?_
        show V G _ _ 46 _ (va_rf (some (G.2.2.2.2.1 ki)) :: va_rf (some (G.2.2.2.2.1 kj)) :: []) _ _ _ _
        refine v_acmp_eq (tgt := 53) dX12_kindsInUse_46 (by decide) (fun c_46 => ?_) (fun c_46 => ?_)
        · refine v_iconst (v := 0) dX12_kindsInUse_53 (by decide) ?_
          refine v_istore_n (L' := [(3, _), (4, _), (2, _), (1, _), (0, _)]) dX12_kindsInUse_54 rfl (Nat.le_of_ble_eq_true rfl) rfl ?_
          refine v_iinc (j := 1) (L' := [(4, _), (3, _), (2, _), (1, _), (0, _)]) (v := nI (j + 1)) dX12_kindsInUse_55 rfl (nI_1 _) (Nat.le_of_ble_eq_true rfl) rfl ?_
          refine v_goto (tgt := 17) dX12_kindsInUse_58 (by decide) ?_
          refine v_sub (L' := [(4, _), (3, _), (2, _), (1, _), (0, _)]) [0, 1, 2, 3, 4] rfl ?_
          refine ih (j + 1) _ (by omega) ?_
          first
          | exact Or.inr ⟨rfl, (hw.resolve_left (fun r => by rw [r.1] at c_24; exact absurd c_24 (by decide))).2⟩
          | (refine Or.inr ⟨rfl, fun r => r j (by omega) ?_⟩; rw [kj2, ki2, hki kj ki kj1 ki1 (Option.some.inj c_46)])
          | (refine Or.inl ⟨rfl, fun q0 hq0 => ?_⟩
             by_cases e : q0 = j
             · rw [e, kj2, ki2]; exact fun r => c_46 (by rw [(nI_eq (by omega) (by omega)).mp r])
             · exact (hw.resolve_right (fun r => c_24 r.1)).2 q0 (by omega))
        · refine v_iconst (v := 1) dX12_kindsInUse_49 (by decide) ?_
          refine v_goto (tgt := 54) dX12_kindsInUse_50 (by decide) ?_
          refine v_istore_n (L' := [(3, _), (4, _), (2, _), (1, _), (0, _)]) dX12_kindsInUse_54 rfl (Nat.le_of_ble_eq_true rfl) rfl ?_
          refine v_iinc (j := 1) (L' := [(4, _), (3, _), (2, _), (1, _), (0, _)]) (v := nI (j + 1)) dX12_kindsInUse_55 rfl (nI_1 _) (Nat.le_of_ble_eq_true rfl) rfl ?_
          refine v_goto (tgt := 17) dX12_kindsInUse_58 (by decide) ?_
          refine v_sub (L' := [(4, _), (3, _), (2, _), (1, _), (0, _)]) [0, 1, 2, 3, 4] rfl ?_
          refine ih (j + 1) _ (by omega) ?_
          first
          | exact Or.inr ⟨rfl, (hw.resolve_left (fun r => by rw [r.1] at c_24; exact absurd c_24 (by decide))).2⟩
          | (refine Or.inr ⟨rfl, fun r => r j (by omega) ?_⟩; rw [kj2, ki2, hki kj ki kj1 ki1 (Option.some.inj c_46)])
          | (refine Or.inl ⟨rfl, fun q0 hq0 => ?_⟩
             by_cases e : q0 = j
             · rw [e, kj2, ki2]; exact fun r => c_46 (by rw [(nI_eq (by omega) (by omega)).mp r])
             · exact (hw.resolve_right (fun r => c_24 r.1)).2 q0 (by omega))

set_option maxHeartbeats 4000000 in
set_option maxRecDepth 100000 in
theorem l_kinds2 (G : sv_G) (hki : sv_ki G) (h : sv_h) (z b n : Nat) (f : Nat → Int32) (q ru : Nat) (fr : Nat → Option Nat) (hr1 : ab_Q G h ru 5 20 fr) (hr2 : ∀ j, j < 20 → fr j = some (q + j)) (hn : n ≤ 20) (hr3 : ∀ i, i < n → ∃ kd, kd < 11 ∧ f i = nI kd ∧ ∃ (nm : Int64) (x1 x2 x3 x4 x5 x6 : Int32), h (q + i) = some (.inr (5, [.long nm, .ref (G.2.2.2.2.1 kd), .int x1, .int x2, .int x3, .int x4, .int x5, .int x6]))) (ly tp rd ck wv la fo fl lo : Nat) (lr lf : Int32) (hb : h b = some (.inr (10, [.ref ly, .ref tp, .ref rd, .ref ck, .ref wv, .ref ru, .int (nI n), .int lr, .int lf, .ref la, .ref fo, .ref fl, .ref lo]))) : ∀ (c i : Nat), i + c = n → V G mX12_kindsInUse (sv_MQ G mX12_kindsInUse (fun v h1 z1 => v = some (.int (nI (kn_a f n))) ∧ h1 = h ∧ z1 = z)) 4 [(2, .int (nI i)), (1, .int (nI (kn_a f i))), (0, .ref b)] [] h z 0 0 := by
  intro c
  induction c with
  | zero =>
    intro i hic
    refine v_iload_n dX12_kindsInUse_4 rfl 0 rfl ?_
    refine v_aload_n dX12_kindsInUse_5 rfl 2 rfl ?_
    refine v_getf 6 (ci := 10) (C := RX12) (T := TX12) (N := 13) rfl iwX12_kindsInUse_X12 (Nat.le_of_ble_eq_true rfl) (by decide +kernel) dX12_kindsInUse_6 (by repeat (first | (with_reducible refine sv_us.trans ?_; exact rfl) | with_reducible assumption | with_reducible refine (sv_un (by omega)).trans ?_)) rfl ?_
    refine v_icmp_ge (tgt := 74) dX12_kindsInUse_9 (by decide) (fun c_9 => ?_) (fun c_9 => ?_)
    · refine v_iload_n dX12_kindsInUse_74 rfl 1 rfl ?_
      exact v_iret rfl dX12_kindsInUse_75 (Nat.le_of_ble_eq_true rfl) (Nat.le_of_ble_eq_true rfl) rfl (by rw [show i = n by omega]; exact ⟨rfl, rfl, rfl⟩)
    · exact absurd (show nI n ≤ nI i from nI_le (by omega) (by omega)) c_9
  | succ c ih =>
    intro i hic
    refine v_iload_n dX12_kindsInUse_4 rfl 0 rfl ?_
    refine v_aload_n dX12_kindsInUse_5 rfl 2 rfl ?_
    refine v_getf 6 (ci := 10) (C := RX12) (T := TX12) (N := 13) rfl iwX12_kindsInUse_X12 (Nat.le_of_ble_eq_true rfl) (by decide +kernel) dX12_kindsInUse_6 (by repeat (first | (with_reducible refine sv_us.trans ?_; exact rfl) | with_reducible assumption | with_reducible refine (sv_un (by omega)).trans ?_)) rfl ?_
    refine v_icmp_ge (tgt := 74) dX12_kindsInUse_9 (by decide) (fun c_9 => ?_) (fun c_9 => ?_)
    · exact absurd c_9 (nI_ge (by omega) (by omega))
    · refine v_iconst (v := 1) dX12_kindsInUse_12 (by decide) ?_
      refine v_istore_n (L' := [(3, _), (2, _), (1, _), (0, _)]) dX12_kindsInUse_13 rfl (Nat.le_of_ble_eq_true rfl) rfl ?_
      refine v_iconst (v := 0) dX12_kindsInUse_14 (by decide) ?_
      refine v_istore (L' := [(4, _), (3, _), (2, _), (1, _), (0, _)]) dX12_kindsInUse_15 (Nat.le_of_ble_eq_true rfl) rfl ?_
      refine v_sub (L' := [(4, _), (3, _), (2, _), (1, _), (0, _)]) [0, 1, 2, 3, 4] rfl ?_
      refine l_kinds1 G hki _ h z b n i _ f q ru fr hr1 hr2 hn hr3 _ _ _ _ _ _ _ _ _ _ _ hb (by omega) (fun w9 hw9 => ?_) i 0 _ (by omega) (Or.inl ⟨rfl, fun q0 hq0 => absurd hq0 (Nat.not_lt_zero q0)⟩)
      refine v_iload_n dX12_kindsInUse_61 rfl 1 rfl ?_
      refine v_if_eq (tgt := 68) dX12_kindsInUse_62 (by decide) (fun c_62 => ?_) (fun c_62 => ?_)
      · refine v_iinc (j := 2) (L' := [(2, _), (4, _), (3, _), (1, _), (0, _)]) (v := nI (i + 1)) dX12_kindsInUse_68 rfl (nI_1 _) (Nat.le_of_ble_eq_true rfl) rfl ?_
        refine v_goto (tgt := 4) dX12_kindsInUse_71 (by decide) ?_
        refine v_sub (L' := [(2, _), (1, _), (0, _)]) [0, 3, 4] rfl ?_
        first
        | (have e9 := ih (i + 1) (by omega); rw [kn_a0 ((hw9.resolve_left (fun r => by rw [r.1] at c_62; exact absurd c_62 (by decide))).2)] at e9; exact e9)
        | (have e9 := ih (i + 1) (by omega); rw [kn_a1 ((hw9.resolve_right (fun r => c_62 r.1)).2)] at e9; exact e9)
      · refine v_iinc (j := 3) (L' := [(1, _), (4, _), (3, _), (2, _), (0, _)]) (v := nI (kn_a f i + 1)) dX12_kindsInUse_65 rfl (nI_1 _) (Nat.le_of_ble_eq_true rfl) rfl ?_
        refine v_iinc (j := 3) (L' := [(2, _), (1, _), (4, _), (3, _), (0, _)]) (v := nI (i + 1)) dX12_kindsInUse_68 rfl (nI_1 _) (Nat.le_of_ble_eq_true rfl) rfl ?_
        refine v_goto (tgt := 4) dX12_kindsInUse_71 (by decide) ?_
        refine v_sub (L' := [(2, _), (1, _), (0, _)]) [0, 1, 4] rfl ?_
        first
        | (have e9 := ih (i + 1) (by omega); rw [kn_a0 ((hw9.resolve_left (fun r => by rw [r.1] at c_62; exact absurd c_62 (by decide))).2)] at e9; exact e9)
        | (have e9 := ih (i + 1) (by omega); rw [kn_a1 ((hw9.resolve_right (fun r => c_62 r.1)).2)] at e9; exact e9)

set_option maxHeartbeats 4000000 in
set_option maxRecDepth 100000 in
theorem c_kinds (G : sv_G) (hki : sv_ki G) (h : sv_h) (z b n : Nat) (f : Nat → Int32) (q ru : Nat) (fr : Nat → Option Nat) (hr1 : ab_Q G h ru 5 20 fr) (hr2 : ∀ j, j < 20 → fr j = some (q + j)) (hn : n ≤ 20) (hr3 : ∀ i, i < n → ∃ kd, kd < 11 ∧ f i = nI kd ∧ ∃ (nm : Int64) (x1 x2 x3 x4 x5 x6 : Int32), h (q + i) = some (.inr (5, [.long nm, .ref (G.2.2.2.2.1 kd), .int x1, .int x2, .int x3, .int x4, .int x5, .int x6]))) (ly tp rd ck wv la fo fl lo : Nat) (lr lf : Int32) (hb : h b = some (.inr (10, [.ref ly, .ref tp, .ref rd, .ref ck, .ref wv, .ref ru, .int (nI n), .int lr, .int lf, .ref la, .ref fo, .ref fl, .ref lo]))) : CT G mX12_kindsInUse [.ref b] h z (fun v h1 z1 => v = some (.int (nI (kn_a f n))) ∧ h1 = h ∧ z1 = z) := by
  refine CT.of (by decide +kernel) rfl rfl (Nat.le_of_ble_eq_true rfl) ?_
  refine v_iconst (v := 0) dX12_kindsInUse_0 (by decide) ?_
  refine v_istore_n (L' := [(1, _), (0, _)]) dX12_kindsInUse_1 rfl (Nat.le_of_ble_eq_true rfl) rfl ?_
  refine v_iconst (v := 0) dX12_kindsInUse_2 (by decide) ?_
  refine v_istore_n (L' := [(2, _), (1, _), (0, _)]) dX12_kindsInUse_3 rfl (Nat.le_of_ble_eq_true rfl) rfl ?_
  refine v_sub (L' := [(2, _), (1, _), (0, _)]) [0, 1, 2] rfl ?_
  exact l_kinds2 G hki h z b n f q ru fr hr1 hr2 hn hr3 _ _ _ _ _ _ _ _ _ _ _ hb n 0 (by omega)

