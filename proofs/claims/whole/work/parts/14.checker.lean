abbrev mX1_init : sv_M := (cX1_init, 3, yX1_init, wsX1_init, none, { frames := 3, cells := 147, slots := 6528, locals := 62 }, [])
set_option maxHeartbeats 4000000 in
set_option maxRecDepth 100000 in
theorem l_Checker_init (G : sv_G) (P : sv_P) (h : sv_h) (z0 r A : Nat) (ly sc bg : Nat) (hr0 : r < z0) (hA0 : A < z0) (hrA : r ≠ A) (hk : ∀ (hi : sv_h) (f : Nat → Option Nat), hi r = some (.inr (0, [.ref ly, .ref sc, .ref A, .ref bg, .null, .null])) → hi A = some (.inl (G.2.2.1 3, 16, .inr (.inr (.inr (.inr f))))) → (∀ j, j < 16 → f j = some (z0 + j) ∧ hi (z0 + j) = some (.inr (2, [.int 0, .int 0, .int 0, .int 0]))) → (∀ a, a < z0 → a ≠ A → hi a = h a) → V G mX1_init P 68 [(2, .int (nI 16)), (0, .ref r), (1, .ref ly)] [] hi (z0 + 16) (131 + 16) (6464 + 64)) : ∀ (cn i : Nat) (hi : sv_h) (f : Nat → Option Nat), i + cn = 16 → hi r = some (.inr (0, [.ref ly, .ref sc, .ref A, .ref bg, .null, .null])) → hi A = some (.inl (G.2.2.1 3, 16, .inr (.inr (.inr (.inr f))))) → (∀ j, j < i → f j = some (z0 + j) ∧ hi (z0 + j) = some (.inr (2, [.int 0, .int 0, .int 0, .int 0]))) → (∀ a, a < z0 → a ≠ A → hi a = h a) → V G mX1_init P 40 [(2, .int (nI i)), (0, .ref r), (1, .ref ly)] [] hi (z0 + i) (131 + i) (6464 + 4 * i) := by
  intro cn
  induction cn with
  | zero =>
    intro i hi f hik hr hA hf hfr
    refine v_iload_n dX1_init_40 rfl 0 rfl ?_
    refine v_aload_n dX1_init_41 rfl 1 rfl ?_
    refine v_getf 2 (ci := 0) (C := RX1) (T := TX1) (N := 6) rfl (by decide +kernel) (Nat.le_of_ble_eq_true rfl) (by decide +kernel) dX1_init_42 (by repeat (first | exact sv_us | assumption | refine (sv_un (by omega)).trans ?_)) rfl ?_
    refine v_alen (t := 3) dX1_init_45 (fun _ => rfl) (by repeat (first | exact sv_us | assumption | refine (sv_un (by omega)).trans ?_)) rfl ?_
    refine v_icmp_ge (tgt := 68) dX1_init_46 (by decide) (fun c_46 => ?_) (fun c_46 => ?_)
    · obtain rfl : i = 16 := by omega
      exact hk hi f hr hA hf hfr
    · exact absurd (show nI 16 ≤ nI i from nI_le (by omega) (by omega)) c_46
  | succ cn ih =>
    intro i hi f hik hr hA hf hfr
    refine v_iload_n dX1_init_40 rfl 0 rfl ?_
    refine v_aload_n dX1_init_41 rfl 1 rfl ?_
    refine v_getf 2 (ci := 0) (C := RX1) (T := TX1) (N := 6) rfl (by decide +kernel) (Nat.le_of_ble_eq_true rfl) (by decide +kernel) dX1_init_42 (by repeat (first | exact sv_us | assumption | refine (sv_un (by omega)).trans ?_)) rfl ?_
    refine v_alen (t := 3) dX1_init_45 (fun _ => rfl) (by repeat (first | exact sv_us | assumption | refine (sv_un (by omega)).trans ?_)) rfl ?_
    refine v_icmp_ge (tgt := 68) dX1_init_46 (by decide) (fun c_46 => ?_) (fun c_46 => ?_)
    · exact absurd c_46 (nI_ge (a := i) (b := 16) (by omega) (by omega))
    · refine v_aload_n dX1_init_49 rfl 1 rfl ?_
      refine v_getf 2 (ci := 0) (C := RX1) (T := TX1) (N := 6) rfl (by decide +kernel) (Nat.le_of_ble_eq_true rfl) (by decide +kernel) dX1_init_50 (by repeat (first | exact sv_us | assumption | refine (sv_un (by omega)).trans ?_)) rfl ?_
      refine v_iload_n dX1_init_53 rfl 0 rfl ?_
      refine v_new (ci := 2) (C := RX4) (T := TX4) (N := 4) (fs := [.int 0, .int 0, .int 0, .int 0]) rfl (by decide +kernel) tyX4 tyX4_ok (by decide +kernel) (by decide +kernel) (by decide +kernel) dX1_init_54 (by decide +kernel) (by show 131 + i + 1 ≤ 147; omega) (by show 6464 + 4 * i + 4 ≤ 6528; omega) ?_
      refine v_dup dX1_init_57 rfl ?_
      refine v_callIN (M' := mX4_init) (n := 0) (As := []) ggX1_init_X4_init (by decide +kernel) (by decide +kernel) (by decide +kernel) rfl rfl (by decide +kernel) ⟨(Nat.le_of_ble_eq_true rfl), (Nat.le_of_ble_eq_true rfl)⟩ dX1_init_58 rfl ⟨by show 131 + i + 1 + 0 ≤ 147; omega, by show 6464 + 4 * i + 4 + 0 ≤ 6528; omega⟩ (Nat.le_of_ble_eq_true rfl) rfl (c_Move_init G _ _ _) (fun v h1 z1 hq => ?_)
      obtain ⟨rfl, rfl, rfl⟩ := hq
      refine v_aast (t := 3) (r := (RX4, TX4, 4)) (ci := 2) dX1_init_61 (fun _ => rfl) rfl (by repeat (first | exact sv_us | assumption | refine (sv_un (by omega)).trans ?_)) sv_us (vp_in_nI (by omega) (by omega)) ?_
      refine v_iinc (j := 0) (L' := [(2, _), (0, _), (1, _)]) (v := nI (i + 1)) dX1_init_62 rfl (nI_1 i) (Nat.le_of_ble_eq_true rfl) rfl ?_
      refine v_goto (tgt := 40) dX1_init_65 (by decide) ?_
      refine v_sub (L' := [(2, _), (0, _), (1, _)]) [0, 1, 2] rfl ?_
      refine v_widen (ce' := 131 + (i + 1)) (sl' := 6464 + 4 * (i + 1)) (by show 131 + i + 1 + 0 ≤ _; omega) (by show 6464 + 4 * i + 4 + 0 ≤ _; omega) ?_
      have ecl : (nI i).toNatClampNeg = i := nI_clamp (by omega)
      refine ih (i + 1) _ _ (by omega) (by repeat (first | exact sv_us | assumption | refine (sv_un (by omega)).trans ?_)) sv_us (fun j hj => ?_) (fun a q1 q2 => ?_)
      · rcases Nat.lt_or_ge j i with hj2 | hj2
        · obtain ⟨e1, e2⟩ := hf j hj2
          exact ⟨by rw [ecl, sv_un (by omega)]; exact e1, by repeat (first | exact e2 | refine (sv_un (by omega)).trans ?_)⟩
        · obtain rfl : j = i := by omega
          exact ⟨by rw [ecl, sv_us], by repeat (first | exact sv_us | refine (sv_un (by omega)).trans ?_)⟩
      · repeat (first | exact hfr a q1 q2 | refine (sv_un (by omega)).trans ?_)

set_option maxHeartbeats 4000000 in
set_option maxRecDepth 100000 in
theorem c_Checker_init (G : sv_G) (h : sv_h) (z r ly : Nat) (hz : r < z) (ht : h r = some (.inr (0, [.null, .null, .null, .null, .null, .null]))) : CT G mX1_init [.ref r, .ref ly] h z (fun v h1 z1 => v = none ∧ z1 = z + 147 ∧ h1 r = some (.inr (0, [.ref ly, .ref (z + 2), .ref z, .ref (z + 1), .null, .null])) ∧ h1 (z + 1) = some (.inl (G.2.2.1 0, 17, .inl (fun _ => 0))) ∧ h1 (z + 2) = some (.inr (6, [.ref ly, .ref (z + 3), .int 0, .ref (z + 4), .ref (z + 5), .ref (z + 6), .ref (z + 7), .ref (z + 8), .ref (z + 9), .ref (z + 10), .ref (z + 11), .ref (z + 12), .ref (z + 13), .ref (z + 14)])) ∧ (h1 (z + 4) = some (.inl (G.2.2.1 0, 100, .inl (fun _ => 0))) ∧ h1 (z + 5) = some (.inl (G.2.2.1 0, 100, .inl (fun _ => 0))) ∧ h1 (z + 7) = some (.inl (G.2.2.1 0, 400, .inl (fun _ => 0))) ∧ h1 (z + 8) = some (.inl (G.2.2.1 0, 4, .inl (fun _ => 0))) ∧ h1 (z + 9) = some (.inl (G.2.2.1 0, 16, .inl (fun _ => 0))) ∧ h1 (z + 10) = some (.inl (G.2.2.1 0, 16, .inl (fun _ => 0))) ∧ h1 (z + 11) = some (.inl (G.2.2.1 0, 401, .inl (fun _ => 0))) ∧ h1 (z + 12) = some (.inl (G.2.2.1 0, 1600, .inl (fun _ => 0))) ∧ h1 (z + 13) = some (.inl (G.2.2.1 0, 1600, .inl (fun _ => 0))) ∧ h1 (z + 14) = some (.inl (G.2.2.1 0, 1600, .inl (fun _ => 0)))) ∧ (∃ f : Nat → Option Nat, h1 (z + 3) = some (.inl (G.2.2.1 3, 16, .inr (.inr (.inr (.inr f))))) ∧ ∀ j, j < 16 → f j = some (z + 15 + j) ∧ h1 (z + 15 + j) = some (.inr (2, [.int 0, .int 0, .int 0, .int 0]))) ∧ (∃ f : Nat → Option Nat, h1 (z + 6) = some (.inl (G.2.2.1 3, 100, .inr (.inr (.inr (.inr f))))) ∧ ∀ j, j < 100 → f j = some (z + 31 + j) ∧ h1 (z + 31 + j) = some (.inr (2, [.int 0, .int 0, .int 0, .int 0]))) ∧ (∃ f : Nat → Option Nat, h1 z = some (.inl (G.2.2.1 3, 16, .inr (.inr (.inr (.inr f))))) ∧ ∀ j, j < 16 → f j = some (z + 131 + j) ∧ h1 (z + 131 + j) = some (.inr (2, [.int 0, .int 0, .int 0, .int 0]))) ∧ ∀ a, a < z → a ≠ r → h1 a = h a) := by
  refine CT.of (by decide +kernel) rfl rfl (Nat.le_of_ble_eq_true rfl) ?_
  refine v_aload_n dX1_init_0 rfl 0 rfl ?_
  refine v_objI (by decide +kernel) (by decide +kernel) (by decide +kernel) dX1_init_1 (Nat.le_of_ble_eq_true rfl) (Nat.le_of_ble_eq_true rfl) ?_
  refine v_aload_n dX1_init_4 rfl 0 rfl ?_
  refine v_bipush (v := 16) dX1_init_5 (by decide) ?_
  refine v_newQ (E := RX4) (t := 3) (N := 16) (by decide +kernel) dX1_init_7 (fun _ => rfl) (fun _ K => K.2.2.2.1) (by decide) (by decide) (by decide) (Nat.le_of_ble_eq_true rfl) (Nat.le_of_ble_eq_true rfl) ?_
  refine v_putF 2 (ci := 0) (C := RX1) (T := TX1) (N := 6) (ty := (.array (.object "RuleDeck$Move"))) rfl (by decide +kernel) tyX1 tyX1_ok nmX1 (Nat.le_of_ble_eq_true rfl) (by decide +kernel) rfl rfl rfl rfl dX1_init_10 rfl rfl (by repeat (first | exact sv_us | assumption | refine (sv_un (by omega)).trans ?_)) (Nat.le_of_ble_eq_true rfl) ?_
  refine v_aload_n dX1_init_13 rfl 0 rfl ?_
  refine v_bipush (v := 17) dX1_init_14 (by decide) ?_
  refine v_newI (N := 17) (by decide +kernel) dX1_init_16 (by decide) (by decide) (by decide) (Nat.le_of_ble_eq_true rfl) (Nat.le_of_ble_eq_true rfl) ?_
  refine v_putF 3 (ci := 0) (C := RX1) (T := TX1) (N := 6) (ty := (.array .int)) rfl (by decide +kernel) tyX1 tyX1_ok nmX1 (Nat.le_of_ble_eq_true rfl) (by decide +kernel) rfl rfl rfl rfl dX1_init_18 rfl rfl (by repeat (first | exact sv_us | assumption | refine (sv_un (by omega)).trans ?_)) (Nat.le_of_ble_eq_true rfl) ?_
  refine v_aload_n dX1_init_21 rfl 0 rfl ?_
  refine v_aload_n dX1_init_22 rfl 1 rfl ?_
  refine v_putF 0 (ci := 0) (C := RX1) (T := TX1) (N := 6) (ty := (.object "RuleDeck$Layout")) rfl (by decide +kernel) tyX1 tyX1_ok nmX1 (Nat.le_of_ble_eq_true rfl) (by decide +kernel) rfl rfl rfl rfl dX1_init_23 rfl rfl (by repeat (first | exact sv_us | assumption | refine (sv_un (by omega)).trans ?_)) (Nat.le_of_ble_eq_true rfl) ?_
  refine v_aload_n dX1_init_26 rfl 0 rfl ?_
  refine v_new (ci := 6) (C := RX8) (T := TX8) (N := 14) (fs := [.null, .null, .int 0, .null, .null, .null, .null, .null, .null, .null, .null, .null, .null, .null]) rfl (by decide +kernel) tyX8 tyX8_ok (by decide +kernel) (by decide +kernel) (by decide +kernel) dX1_init_27 (by decide +kernel) (Nat.le_of_ble_eq_true rfl) (Nat.le_of_ble_eq_true rfl) ?_
  refine v_dup dX1_init_30 rfl ?_
  refine v_aload_n dX1_init_31 rfl 1 rfl ?_
  refine v_callI (M' := mX8_init) (n := 1) (As := [_]) ggX1_init_X8_init (by decide +kernel) (by decide +kernel) (by decide +kernel) rfl rfl (by decide +kernel) ⟨(Nat.le_of_ble_eq_true rfl), (Nat.le_of_ble_eq_true rfl)⟩ dX1_init_32 rfl ⟨(Nat.le_of_ble_eq_true rfl), (Nat.le_of_ble_eq_true rfl)⟩ (Nat.le_of_ble_eq_true rfl) rfl (c_Scene_init G _ _ _ _ (by omega) sv_us) (fun v h1 z1 hq => ?_)
  obtain ⟨rfl, rfl, g0, g1, ⟨f1, g2, g3⟩, ⟨f2, g4, g5⟩, frS⟩ := hq
  obtain ⟨i0, i1, i2, i3, i4, i5, i6, i7, i8, i9⟩ := g1
  refine v_putF 1 (ci := 0) (C := RX1) (T := TX1) (N := 6) (ty := (.object "RuleDeck$Scene")) rfl (by decide +kernel) tyX1 tyX1_ok nmX1 (Nat.le_of_ble_eq_true rfl) (by decide +kernel) rfl rfl rfl rfl dX1_init_35 rfl rfl (by repeat (first | exact sv_us | assumption | refine (sv_un (by omega)).trans ?_ | refine (frS _ (by omega) (by omega)).trans ?_)) (Nat.le_of_ble_eq_true rfl) ?_
  refine v_iconst (v := 0) dX1_init_38 (by decide) ?_
  refine v_istore_n (L' := [(2, _), (0, _), (1, _)]) dX1_init_39 rfl (Nat.le_of_ble_eq_true rfl) rfl ?_
  refine v_sub (L' := [(2, _), (0, _), (1, _)]) [0, 1, 2] rfl ?_
  refine v_widen (ce' := 131) (sl' := 6464) (Nat.le_of_ble_eq_true rfl) (Nat.le_of_ble_eq_true rfl) ?_
  refine l_Checker_init G _ _ (z + 131) r z ly (z + 2) (z + 1) (by omega) (by omega) (by omega) ?_ 16 0 _ (fun _ => none) rfl (by repeat (first | exact sv_us | assumption | refine (sv_un (by omega)).trans ?_ | refine (frS _ (by omega) (by omega)).trans ?_)) (by repeat (first | exact sv_us | assumption | refine (sv_un (by omega)).trans ?_ | refine (frS _ (by omega) (by omega)).trans ?_)) (fun j hj => absurd hj (Nat.not_lt_zero j)) (fun a q1 q2 => rfl)
  intro hi f hr hA hf hfr
  refine v_ret rfl dX1_init_68 (Nat.le_of_ble_eq_true rfl) (Nat.le_of_ble_eq_true rfl) ⟨rfl, rfl, hr, (by first | (refine (hfr _ (by omega) (by omega)).trans ?_; repeat (first | exact sv_us | assumption | refine (sv_un (by omega)).trans ?_ | refine (frS _ (by omega) (by omega)).trans ?_))), (by first | (refine (hfr _ (by omega) (by omega)).trans ?_; repeat (first | exact sv_us | assumption | refine (sv_un (by omega)).trans ?_ | refine (frS _ (by omega) (by omega)).trans ?_))), ⟨(by first | (refine (hfr _ (by omega) (by omega)).trans ?_; repeat (first | exact sv_us | assumption | refine (sv_un (by omega)).trans ?_ | refine (frS _ (by omega) (by omega)).trans ?_))), (by first | (refine (hfr _ (by omega) (by omega)).trans ?_; repeat (first | exact sv_us | assumption | refine (sv_un (by omega)).trans ?_ | refine (frS _ (by omega) (by omega)).trans ?_))), (by first | (refine (hfr _ (by omega) (by omega)).trans ?_; repeat (first | exact sv_us | assumption | refine (sv_un (by omega)).trans ?_ | refine (frS _ (by omega) (by omega)).trans ?_))), (by first | (refine (hfr _ (by omega) (by omega)).trans ?_; repeat (first | exact sv_us | assumption | refine (sv_un (by omega)).trans ?_ | refine (frS _ (by omega) (by omega)).trans ?_))), (by first | (refine (hfr _ (by omega) (by omega)).trans ?_; repeat (first | exact sv_us | assumption | refine (sv_un (by omega)).trans ?_ | refine (frS _ (by omega) (by omega)).trans ?_))), (by first | (refine (hfr _ (by omega) (by omega)).trans ?_; repeat (first | exact sv_us | assumption | refine (sv_un (by omega)).trans ?_ | refine (frS _ (by omega) (by omega)).trans ?_))), (by first | (refine (hfr _ (by omega) (by omega)).trans ?_; repeat (first | exact sv_us | assumption | refine (sv_un (by omega)).trans ?_ | refine (frS _ (by omega) (by omega)).trans ?_))), (by first | (refine (hfr _ (by omega) (by omega)).trans ?_; repeat (first | exact sv_us | assumption | refine (sv_un (by omega)).trans ?_ | refine (frS _ (by omega) (by omega)).trans ?_))), (by first | (refine (hfr _ (by omega) (by omega)).trans ?_; repeat (first | exact sv_us | assumption | refine (sv_un (by omega)).trans ?_ | refine (frS _ (by omega) (by omega)).trans ?_))), (by first | (refine (hfr _ (by omega) (by omega)).trans ?_; repeat (first | exact sv_us | assumption | refine (sv_un (by omega)).trans ?_ | refine (frS _ (by omega) (by omega)).trans ?_)))⟩, ⟨f1, (by first | (refine (hfr _ (by omega) (by omega)).trans ?_; repeat (first | exact sv_us | assumption | refine (sv_un (by omega)).trans ?_ | refine (frS _ (by omega) (by omega)).trans ?_))), fun j hj => ⟨(g3 j hj).1, (hfr _ (by omega) (by omega)).trans ((sv_un (by omega)).trans (g3 j hj).2)⟩⟩, ⟨f2, (by first | (refine (hfr _ (by omega) (by omega)).trans ?_; repeat (first | exact sv_us | assumption | refine (sv_un (by omega)).trans ?_ | refine (frS _ (by omega) (by omega)).trans ?_))), fun j hj => ⟨(g5 j hj).1, (hfr _ (by omega) (by omega)).trans ((sv_un (by omega)).trans (g5 j hj).2)⟩⟩, ⟨f, hA, hf⟩, fun a q1 q2 => (hfr a (by omega) (by omega)).trans (by repeat (first | rfl | refine (sv_un (by omega)).trans ?_ | refine (frS _ (by omega) (by omega)).trans ?_))⟩
