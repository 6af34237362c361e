abbrev mX6_init : sv_M := (cX6_init, 4, yX6_init, wsX6_init, none, { frames := 2, cells := 21, slots := 180, locals := 40 }, [])
set_option maxHeartbeats 4000000 in
set_option maxRecDepth 100000 in
theorem l_Reader_init (G : sv_G) (P : sv_P) (h : sv_h) (z0 r A : Nat) (tp : Nat) (k : Int32) (hr0 : r < z0) (hA0 : A < z0) (hrA : r ≠ A) (hk : ∀ (hi : sv_h) (f : Nat → Option Nat), hi r = some (.inr (4, [.ref tp, .int k, .ref A, .int 0, .int 0, .int 0, .int 0, .int 0, .long 0])) → hi A = some (.inl (G.2.2.1 5, 20, .inr (.inr (.inr (.inr f))))) → (∀ j, j < 20 → f j = some (z0 + j) ∧ hi (z0 + j) = some (.inr (5, [.long 0, .ref (G.2.2.2.2.1 0), .int 0, .int 0, .int 0, .int (-1), .int (-1), .int (-1)]))) → (∀ a, a < z0 → a ≠ A → hi a = h a) → V G mX6_init P 50 [(3, .int (nI 20)), (0, .ref r), (1, .ref tp), (2, .int k)] [] hi (z0 + 20) (1 + 20) (20 + 160)) : ∀ (cn i : Nat) (hi : sv_h) (f : Nat → Option Nat), i + cn = 20 → hi r = some (.inr (4, [.ref tp, .int k, .ref A, .int 0, .int 0, .int 0, .int 0, .int 0, .long 0])) → hi A = some (.inl (G.2.2.1 5, 20, .inr (.inr (.inr (.inr f))))) → (∀ j, j < i → f j = some (z0 + j) ∧ hi (z0 + j) = some (.inr (5, [.long 0, .ref (G.2.2.2.2.1 0), .int 0, .int 0, .int 0, .int (-1), .int (-1), .int (-1)]))) → (∀ a, a < z0 → a ≠ A → hi a = h a) → V G mX6_init P 25 [(3, .int (nI i)), (0, .ref r), (1, .ref tp), (2, .int k)] [] hi (z0 + i) (1 + i) (20 + 8 * i) := by
  intro cn
  induction cn with
  | zero =>
    intro i hi f hik hr hA hf hfr
    refine v_iload_n dX6_init_25 rfl 0 rfl ?_
    refine v_bipush (v := 20) dX6_init_26 (by decide) ?_
    refine v_icmp_ge (tgt := 50) dX6_init_28 (by decide) (fun c_28 => ?_) (fun c_28 => ?_)
    · obtain rfl : i = 20 := by omega
      exact hk hi f hr hA hf hfr
    · exact absurd (show nI 20 ≤ nI i from nI_le (by omega) (by omega)) c_28
  | succ cn ih =>
    intro i hi f hik hr hA hf hfr
    refine v_iload_n dX6_init_25 rfl 0 rfl ?_
    refine v_bipush (v := 20) dX6_init_26 (by decide) ?_
    refine v_icmp_ge (tgt := 50) dX6_init_28 (by decide) (fun c_28 => ?_) (fun c_28 => ?_)
    · exact absurd c_28 (nI_ge (a := i) (b := 20) (by omega) (by omega))
    · refine v_aload_n dX6_init_31 rfl 1 rfl ?_
      refine v_getf 2 (ci := 4) (C := RX6) (T := TX6) (N := 9) rfl iwX6_init_X6 (Nat.le_of_ble_eq_true rfl) (by decide +kernel) dX6_init_32 (by repeat (first | (with_reducible refine sv_us.trans ?_; exact rfl) | with_reducible assumption | with_reducible refine (sv_un (by omega)).trans ?_)) rfl ?_
      refine v_iload_n dX6_init_35 rfl 0 rfl ?_
      refine v_new (ci := 5) (C := RX7) (T := TX7) (N := 8) (fs := [.long 0, .null, .int 0, .int 0, .int 0, .int 0, .int 0, .int 0]) rfl iwX6_init_X7 tyX7 tyX7_ok (by decide +kernel) (by decide +kernel) (by decide +kernel) dX6_init_36 (by decide +kernel) (by show 1 + i + 1 ≤ 21; omega) (by show 20 + 8 * i + 8 ≤ 180; omega) ?_
      refine v_dup dX6_init_39 rfl ?_
      refine v_callIN (M' := mX7_init) (n := 0) (As := []) ggX6_init_X7_init (by decide +kernel) (by decide +kernel) (by decide +kernel) rfl rfl (by decide +kernel) ⟨(Nat.le_of_ble_eq_true rfl), (Nat.le_of_ble_eq_true rfl)⟩ dX6_init_40 rfl ⟨by show 1 + i + 1 + 0 ≤ 21; omega, by show 20 + 8 * i + 8 + 0 ≤ 180; omega⟩ (Nat.le_of_ble_eq_true rfl) rfl (c_Rule_init G _ _ _ sv_us) (fun v h1 z1 hq => ?_)
      obtain ⟨rfl, rfl, rfl⟩ := hq
      refine v_aast (t := 5) (r := (RX7, TX7, 8)) (ci := 5) dX6_init_43 (fun _ => rfl) rfl (by repeat (first | (with_reducible refine sv_us.trans ?_; exact rfl) | with_reducible assumption | with_reducible refine (sv_un (by omega)).trans ?_)) sv_us (vp_in_nI (by omega) (by omega)) ?_
      refine v_iinc (j := 0) (L' := [(3, _), (0, _), (1, _), (2, _)]) (v := nI (i + 1)) dX6_init_44 rfl (nI_1 i) (Nat.le_of_ble_eq_true rfl) rfl ?_
      refine v_goto (tgt := 25) dX6_init_47 (by decide) ?_
      refine v_sub (L' := [(3, _), (0, _), (1, _), (2, _)]) [0, 1, 2, 3] rfl ?_
      refine v_widen (ce' := 1 + (i + 1)) (sl' := 20 + 8 * (i + 1)) (by show 1 + i + 1 + 0 ≤ _; omega) (by show 20 + 8 * i + 8 + 0 ≤ _; omega) ?_
      have ecl : (nI i).toNatClampNeg = i := nI_clamp (by omega)
      refine ih (i + 1) _ _ (by omega) (by repeat (first | (with_reducible refine sv_us.trans ?_; exact rfl) | with_reducible assumption | with_reducible refine (sv_un (by omega)).trans ?_)) sv_us (fun j hj => ?_) (fun a q1 q2 => ?_)
      · rcases Nat.lt_or_ge j i with hj2 | hj2
        · obtain ⟨e1, e2⟩ := hf j hj2
          exact ⟨by rw [ecl, sv_un (by omega)]; exact e1, by repeat (first | exact e2 | refine (sv_un (by omega)).trans ?_)⟩
        · obtain rfl : j = i := by omega
          exact ⟨by rw [ecl, sv_us], by repeat (first | exact sv_us | refine (sv_un (by omega)).trans ?_)⟩
      · repeat (first | exact hfr a q1 q2 | refine (sv_un (by omega)).trans ?_)

set_option maxHeartbeats 4000000 in
set_option maxRecDepth 100000 in
theorem c_Reader_init (G : sv_G) (h : sv_h) (z r tp : Nat) (k : Int32) (hz : r < z) (ht : h r = some (.inr (4, [.null, .int 0, .null, .int 0, .int 0, .int 0, .int 0, .int 0, .long 0]))) : CT G mX6_init [.ref r, .ref tp, .int k] h z (fun v h1 z1 => v = none ∧ z1 = z + 21 ∧ h1 r = some (.inr (4, [.ref tp, .int k, .ref z, .int 0, .int 0, .int 0, .int 0, .int 0, .long 0])) ∧ (∃ f : Nat → Option Nat, h1 z = some (.inl (G.2.2.1 5, 20, .inr (.inr (.inr (.inr f))))) ∧ ∀ j, j < 20 → f j = some (z + 1 + j) ∧ h1 (z + 1 + j) = some (.inr (5, [.long 0, .ref (G.2.2.2.2.1 0), .int 0, .int 0, .int 0, .int (-1), .int (-1), .int (-1)]))) ∧ ∀ a, a < z → a ≠ r → h1 a = h a) := by
  refine CT.of (by decide +kernel) rfl rfl (Nat.le_of_ble_eq_true rfl) ?_
  refine v_aload_n dX6_init_0 rfl 0 rfl ?_
  refine v_objI (by decide +kernel) (by decide +kernel) (by decide +kernel) dX6_init_1 (Nat.le_of_ble_eq_true rfl) (Nat.le_of_ble_eq_true rfl) ?_
  refine v_aload_n dX6_init_4 rfl 0 rfl ?_
  refine v_aload_n dX6_init_5 rfl 1 rfl ?_
  refine v_putF 0 (fs' := [_, _, _, _, _, _, _, _, _]) (ci := 4) (C := RX6) (T := TX6) (N := 9) (ty := (.object "RuleDeck$Tape")) rfl iwX6_init_X6 tyX6 tyX6_ok nmX6 (Nat.le_of_ble_eq_true rfl) (by decide +kernel) rfl rfl rfl rfl dX6_init_6 rfl rfl (by repeat (first | (with_reducible refine sv_us.trans ?_; exact rfl) | with_reducible assumption | with_reducible refine (sv_un (by omega)).trans ?_)) (Nat.le_of_ble_eq_true rfl) rfl ?_
  refine v_aload_n dX6_init_9 rfl 0 rfl ?_
  refine v_iload_n dX6_init_10 rfl 2 rfl ?_
  refine v_putF 1 (fs' := [_, _, _, _, _, _, _, _, _]) (ci := 4) (C := RX6) (T := TX6) (N := 9) (ty := .int) rfl iwX6_init_X6 tyX6 tyX6_ok nmX6 (Nat.le_of_ble_eq_true rfl) (by decide +kernel) rfl rfl rfl rfl dX6_init_11 rfl rfl (by repeat (first | (with_reducible refine sv_us.trans ?_; exact rfl) | with_reducible assumption | with_reducible refine (sv_un (by omega)).trans ?_)) (Nat.le_of_ble_eq_true rfl) rfl ?_
  refine v_aload_n dX6_init_14 rfl 0 rfl ?_
  refine v_bipush (v := 20) dX6_init_15 (by decide) ?_
  refine v_newQ (E := RX7) (t := 5) (N := 20) (by decide +kernel) dX6_init_17 (fun _ => rfl) (fun _ K => K.2.2.2.2.2.1) (by decide) (by decide) (by decide) (Nat.le_of_ble_eq_true rfl) (Nat.le_of_ble_eq_true rfl) ?_
  refine v_putf 2 (fs' := [_, _, _, _, _, _, _, _, _]) (ci := 4) (C := RX6) (T := TX6) (N := 9) (ty := (.array (.object "RuleDeck$Rule"))) rfl iwX6_init_X6 tyX6 tyX6_ok nmX6 (Nat.le_of_ble_eq_true rfl) (by decide +kernel) rfl rfl dX6_init_20 rfl rfl (by repeat (first | (with_reducible refine sv_us.trans ?_; exact rfl) | with_reducible assumption | with_reducible refine (sv_un (by omega)).trans ?_)) (Nat.le_of_ble_eq_true rfl) rfl ?_
  refine v_iconst (v := 0) dX6_init_23 (by decide) ?_
  refine v_istore_n (L' := [(3, _), (0, _), (1, _), (2, _)]) dX6_init_24 rfl (Nat.le_of_ble_eq_true rfl) rfl ?_
  refine v_sub (L' := [(3, _), (0, _), (1, _), (2, _)]) [0, 1, 2, 3] rfl ?_
  refine l_Reader_init G _ _ (z + 1) r z tp k (by omega) (by omega) (by omega) ?_ 20 0 _ _ rfl (by repeat (first | (with_reducible refine sv_us.trans ?_; exact rfl) | with_reducible assumption | with_reducible refine (sv_un (by omega)).trans ?_)) (by repeat (first | (with_reducible refine sv_us.trans ?_; exact rfl) | with_reducible assumption | with_reducible refine (sv_un (by omega)).trans ?_)) (fun j hj => absurd hj (Nat.not_lt_zero j)) (fun a q1 q2 => rfl)
  intro hi f hr hA hf hfr
  exact v_ret rfl dX6_init_50 (Nat.le_of_ble_eq_true rfl) (Nat.le_of_ble_eq_true rfl) ⟨rfl, rfl, hr, ⟨f, hA, hf⟩, fun a q1 q2 => (hfr a (by omega) (by omega)).trans (by repeat (first | with_reducible rfl | with_reducible refine (sv_un (by omega)).trans ?_))⟩
