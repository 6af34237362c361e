theorem iwX3_init_X3 : ∀ w ∈ wsX30, w ∈ wsX3_init := by decide +kernel
theorem iwX7_init_X7 : ∀ w ∈ wsX70, w ∈ wsX7_init := by decide +kernel
theorem iwX6_init_X6 : ∀ w ∈ wsX60, w ∈ wsX6_init := by decide +kernel
theorem iwX6_init_X7 : ∀ w ∈ wsX70, w ∈ wsX6_init := by decide +kernel
theorem iwX10_init_X10 : ∀ w ∈ wsX100, w ∈ wsX10_init := by decide +kernel
theorem iwX11_init_X11 : ∀ w ∈ wsX110, w ∈ wsX11_init := by decide +kernel
theorem dX3_init_0 : decode cX3_init 0 = .ok (.aload_n 0, 1) := by decide +kernel
theorem dX3_init_1 : decode cX3_init 1 = .ok (.invokespecial 3, 3) := by decide +kernel
theorem dX3_init_4 : decode cX3_init 4 = .ok (.aload_n 0, 1) := by decide +kernel
theorem dX3_init_5 : decode cX3_init 5 = .ok (.bipush 64, 2) := by decide +kernel
theorem dX3_init_7 : decode cX3_init 7 = .ok (.anewarray 9, 3) := by decide +kernel
theorem dX3_init_10 : decode cX3_init 10 = .ok (.putfield 11, 3) := by decide +kernel
theorem dX3_init_13 : decode cX3_init 13 = .ok (.aload_n 0, 1) := by decide +kernel
theorem dX3_init_14 : decode cX3_init 14 = .ok (.bipush 32, 2) := by decide +kernel
theorem dX3_init_16 : decode cX3_init 16 = .ok (.newarray .int, 2) := by decide +kernel
theorem dX3_init_18 : decode cX3_init 18 = .ok (.putfield 17, 3) := by decide +kernel
theorem dX3_init_21 : decode cX3_init 21 = .ok (.aload_n 0, 1) := by decide +kernel
theorem dX3_init_22 : decode cX3_init 22 = .ok (.bipush 32, 2) := by decide +kernel
theorem dX3_init_24 : decode cX3_init 24 = .ok (.newarray .int, 2) := by decide +kernel
theorem dX3_init_26 : decode cX3_init 26 = .ok (.putfield 21, 3) := by decide +kernel
theorem dX3_init_29 : decode cX3_init 29 = .ok (.aload_n 0, 1) := by decide +kernel
theorem dX3_init_30 : decode cX3_init 30 = .ok (.bipush 32, 2) := by decide +kernel
theorem dX3_init_32 : decode cX3_init 32 = .ok (.anewarray 24, 3) := by decide +kernel
theorem dX3_init_35 : decode cX3_init 35 = .ok (.putfield 26, 3) := by decide +kernel
theorem dX3_init_38 : decode cX3_init 38 = .ok (.aload_n 0, 1) := by decide +kernel
theorem dX3_init_39 : decode cX3_init 39 = .ok (.bipush 16, 2) := by decide +kernel
theorem dX3_init_41 : decode cX3_init 41 = .ok (.newarray .int, 2) := by decide +kernel
theorem dX3_init_43 : decode cX3_init 43 = .ok (.putfield 30, 3) := by decide +kernel
theorem dX3_init_46 : decode cX3_init 46 = .ok (.aload_n 0, 1) := by decide +kernel
theorem dX3_init_47 : decode cX3_init 47 = .ok (.bipush 16, 2) := by decide +kernel
theorem dX3_init_49 : decode cX3_init 49 = .ok (.newarray .int, 2) := by decide +kernel
theorem dX3_init_51 : decode cX3_init 51 = .ok (.putfield 33, 3) := by decide +kernel
theorem dX3_init_54 : decode cX3_init 54 = .ok (.aload_n 0, 1) := by decide +kernel
theorem dX3_init_55 : decode cX3_init 55 = .ok (.iload_n 1, 1) := by decide +kernel
theorem dX3_init_56 : decode cX3_init 56 = .ok (.putfield 36, 3) := by decide +kernel
theorem dX3_init_59 : decode cX3_init 59 = .ok (.return_, 1) := by decide +kernel
theorem dX4_init_0 : decode cX4_init 0 = .ok (.aload_n 0, 1) := by decide +kernel
theorem dX4_init_1 : decode cX4_init 1 = .ok (.invokespecial 1, 3) := by decide +kernel
theorem dX4_init_4 : decode cX4_init 4 = .ok (.return_, 1) := by decide +kernel
set_option maxRecDepth 20000 in
theorem ggX6_init_X7_init : GoodIn wsX6_init wsX7_init := goodIn_r _ [11, 12, 2, 3, 13, 14, 15, 16, 17, 27, 28, 29, 30, 31, 32, 33, 34] (by decide +kernel) (by decide +kernel)
theorem dX6_init_0 : decode cX6_init 0 = .ok (.aload_n 0, 1) := by decide +kernel
theorem dX6_init_1 : decode cX6_init 1 = .ok (.invokespecial 3, 3) := by decide +kernel
theorem dX6_init_4 : decode cX6_init 4 = .ok (.aload_n 0, 1) := by decide +kernel
theorem dX6_init_5 : decode cX6_init 5 = .ok (.aload_n 1, 1) := by decide +kernel
theorem dX6_init_6 : decode cX6_init 6 = .ok (.putfield 9, 3) := by decide +kernel
theorem dX6_init_9 : decode cX6_init 9 = .ok (.aload_n 0, 1) := by decide +kernel
theorem dX6_init_10 : decode cX6_init 10 = .ok (.iload_n 2, 1) := by decide +kernel
theorem dX6_init_11 : decode cX6_init 11 = .ok (.putfield 15, 3) := by decide +kernel
theorem dX6_init_14 : decode cX6_init 14 = .ok (.aload_n 0, 1) := by decide +kernel
theorem dX6_init_15 : decode cX6_init 15 = .ok (.bipush 20, 2) := by decide +kernel
theorem dX6_init_17 : decode cX6_init 17 = .ok (.anewarray 19, 3) := by decide +kernel
theorem dX6_init_20 : decode cX6_init 20 = .ok (.putfield 21, 3) := by decide +kernel
theorem dX6_init_23 : decode cX6_init 23 = .ok (.iconst 0, 1) := by decide +kernel
theorem dX6_init_24 : decode cX6_init 24 = .ok (.istore_n 3, 1) := by decide +kernel
theorem dX6_init_25 : decode cX6_init 25 = .ok (.iload_n 3, 1) := by decide +kernel
theorem dX6_init_26 : decode cX6_init 26 = .ok (.bipush 20, 2) := by decide +kernel
theorem dX6_init_28 : decode cX6_init 28 = .ok (.if_icmp .ge 22, 3) := by decide +kernel
theorem dX6_init_31 : decode cX6_init 31 = .ok (.aload_n 0, 1) := by decide +kernel
theorem dX6_init_32 : decode cX6_init 32 = .ok (.getfield 21, 3) := by decide +kernel
theorem dX6_init_35 : decode cX6_init 35 = .ok (.iload_n 3, 1) := by decide +kernel
theorem dX6_init_36 : decode cX6_init 36 = .ok (.new 19, 3) := by decide +kernel
theorem dX6_init_39 : decode cX6_init 39 = .ok (.dup, 1) := by decide +kernel
theorem dX6_init_40 : decode cX6_init 40 = .ok (.invokespecial 25, 3) := by decide +kernel
theorem dX6_init_43 : decode cX6_init 43 = .ok (.aastore, 1) := by decide +kernel
theorem dX6_init_44 : decode cX6_init 44 = .ok (.iinc 3 1, 3) := by decide +kernel
theorem dX6_init_47 : decode cX6_init 47 = .ok (.goto (-22), 3) := by decide +kernel
theorem dX6_init_50 : decode cX6_init 50 = .ok (.return_, 1) := by decide +kernel
theorem dX7_init_0 : decode cX7_init 0 = .ok (.aload_n 0, 1) := by decide +kernel
theorem dX7_init_1 : decode cX7_init 1 = .ok (.invokespecial 3, 3) := by decide +kernel
theorem dX7_init_4 : decode cX7_init 4 = .ok (.aload_n 0, 1) := by decide +kernel
theorem dX7_init_5 : decode cX7_init 5 = .ok (.getstatic 9, 3) := by decide +kernel
theorem dX7_init_8 : decode cX7_init 8 = .ok (.putfield 15, 3) := by decide +kernel
theorem dX7_init_11 : decode cX7_init 11 = .ok (.aload_n 0, 1) := by decide +kernel
theorem dX7_init_12 : decode cX7_init 12 = .ok (.iconst (-1), 1) := by decide +kernel
theorem dX7_init_13 : decode cX7_init 13 = .ok (.putfield 20, 3) := by decide +kernel
theorem dX7_init_16 : decode cX7_init 16 = .ok (.aload_n 0, 1) := by decide +kernel
theorem dX7_init_17 : decode cX7_init 17 = .ok (.iconst (-1), 1) := by decide +kernel
theorem dX7_init_18 : decode cX7_init 18 = .ok (.putfield 24, 3) := by decide +kernel
theorem dX7_init_21 : decode cX7_init 21 = .ok (.aload_n 0, 1) := by decide +kernel
theorem dX7_init_22 : decode cX7_init 22 = .ok (.iconst (-1), 1) := by decide +kernel
theorem dX7_init_23 : decode cX7_init 23 = .ok (.putfield 27, 3) := by decide +kernel
theorem dX7_init_26 : decode cX7_init 26 = .ok (.return_, 1) := by decide +kernel
theorem dX10_init_0 : decode cX10_init 0 = .ok (.aload_n 0, 1) := by decide +kernel
theorem dX10_init_1 : decode cX10_init 1 = .ok (.invokespecial 1, 3) := by decide +kernel
theorem dX10_init_4 : decode cX10_init 4 = .ok (.aload_n 0, 1) := by decide +kernel
theorem dX10_init_5 : decode cX10_init 5 = .ok (.sipush 18000, 3) := by decide +kernel
theorem dX10_init_8 : decode cX10_init 8 = .ok (.newarray .long, 2) := by decide +kernel
theorem dX10_init_10 : decode cX10_init 10 = .ok (.putfield 9, 3) := by decide +kernel
theorem dX10_init_13 : decode cX10_init 13 = .ok (.aload_n 0, 1) := by decide +kernel
theorem dX10_init_14 : decode cX10_init 14 = .ok (.sipush 1500, 3) := by decide +kernel
theorem dX10_init_17 : decode cX10_init 17 = .ok (.newarray .int, 2) := by decide +kernel
theorem dX10_init_19 : decode cX10_init 19 = .ok (.putfield 13, 3) := by decide +kernel
theorem dX10_init_22 : decode cX10_init 22 = .ok (.aload_n 0, 1) := by decide +kernel
theorem dX10_init_23 : decode cX10_init 23 = .ok (.sipush 1500, 3) := by decide +kernel
theorem dX10_init_26 : decode cX10_init 26 = .ok (.newarray .int, 2) := by decide +kernel
theorem dX10_init_28 : decode cX10_init 28 = .ok (.putfield 17, 3) := by decide +kernel
theorem dX10_init_31 : decode cX10_init 31 = .ok (.return_, 1) := by decide +kernel
theorem dX11_init_0 : decode cX11_init 0 = .ok (.aload_n 0, 1) := by decide +kernel
theorem dX11_init_1 : decode cX11_init 1 = .ok (.invokespecial 1, 3) := by decide +kernel
theorem dX11_init_4 : decode cX11_init 4 = .ok (.aload_n 0, 1) := by decide +kernel
theorem dX11_init_5 : decode cX11_init 5 = .ok (.sipush 320, 3) := by decide +kernel
theorem dX11_init_8 : decode cX11_init 8 = .ok (.newarray .long, 2) := by decide +kernel
theorem dX11_init_10 : decode cX11_init 10 = .ok (.putfield 9, 3) := by decide +kernel
theorem dX11_init_13 : decode cX11_init 13 = .ok (.aload_n 0, 1) := by decide +kernel
theorem dX11_init_14 : decode cX11_init 14 = .ok (.bipush 8, 2) := by decide +kernel
theorem dX11_init_16 : decode cX11_init 16 = .ok (.newarray .long, 2) := by decide +kernel
theorem dX11_init_18 : decode cX11_init 18 = .ok (.putfield 13, 3) := by decide +kernel
theorem dX11_init_21 : decode cX11_init 21 = .ok (.return_, 1) := by decide +kernel

abbrev mX4_init : sv_M := (cX4_init, 1, yX4_init, wsX4_init, none, { frames := 1, cells := 0, slots := 0, locals := 20 }, [])
set_option maxHeartbeats 4000000 in
set_option maxRecDepth 100000 in
theorem c_Move_init (G : sv_G) (h : sv_h) (z t : Nat) : CT G mX4_init [.ref t] h z (fun v h1 z1 => v = none ∧ z1 = z ∧ h1 = h) := by
  refine CT.of (by decide +kernel) rfl rfl (Nat.le_of_ble_eq_true rfl) ?_
  refine v_aload_n dX4_init_0 rfl 0 rfl ?_
  refine v_objI (by decide +kernel) (by decide +kernel) (by decide +kernel) dX4_init_1 (Nat.le_of_ble_eq_true rfl) (Nat.le_of_ble_eq_true rfl) ?_
  exact v_ret rfl dX4_init_4 (Nat.le_of_ble_eq_true rfl) (Nat.le_of_ble_eq_true rfl) ⟨rfl, rfl, rfl⟩

abbrev mX7_init : sv_M := (cX7_init, 1, yX7_init, wsX7_init, none, { frames := 1, cells := 0, slots := 0, locals := 20 }, [])
set_option maxHeartbeats 4000000 in
set_option maxRecDepth 100000 in
theorem c_Rule_init (G : sv_G) (h : sv_h) (z t : Nat) (ht : h t = some (.inr (5, [.long 0, .null, .int 0, .int 0, .int 0, .int 0, .int 0, .int 0]))) : CT G mX7_init [.ref t] h z (fun v h1 z1 => v = none ∧ z1 = z ∧ h1 = va_up h t (some (.inr (5, [.long 0, .ref (G.2.2.2.2.1 0), .int 0, .int 0, .int 0, .int (-1), .int (-1), .int (-1)])))) := by
  refine CT.of (by decide +kernel) rfl rfl (Nat.le_of_ble_eq_true rfl) ?_
  refine v_aload_n dX7_init_0 rfl 0 rfl ?_
  refine v_objI (by decide +kernel) (by decide +kernel) (by decide +kernel) dX7_init_1 (Nat.le_of_ble_eq_true rfl) (Nat.le_of_ble_eq_true rfl) ?_
  refine v_aload_n dX7_init_4 rfl 0 rfl ?_
  refine v_getk (i := 0) (nm := "WIDTH") (by decide +kernel) (by decide +kernel) dX7_init_5 ?_
  refine v_putf 1 (fs' := [_, _, _, _, _, _, _, _]) (ci := 5) (C := RX7) (T := TX7) (N := 8) (ty := (.object "RuleDeck$Kind")) rfl iwX7_init_X7 tyX7 tyX7_ok nmX7 (Nat.le_of_ble_eq_true rfl) (by decide +kernel) rfl rfl dX7_init_8 rfl rfl (by repeat (first | (with_reducible refine sv_us.trans ?_; exact rfl) | with_reducible assumption | with_reducible refine (sv_un (by omega)).trans ?_)) (Nat.le_of_ble_eq_true rfl) rfl ?_
  refine v_aload_n dX7_init_11 rfl 0 rfl ?_
  refine v_iconst (v := (-1)) dX7_init_12 (by decide) ?_
  refine v_putf 5 (fs' := [_, _, _, _, _, _, _, _]) (ci := 5) (C := RX7) (T := TX7) (N := 8) (ty := .int) rfl iwX7_init_X7 tyX7 tyX7_ok nmX7 (Nat.le_of_ble_eq_true rfl) (by decide +kernel) rfl rfl dX7_init_13 rfl rfl (by repeat (first | (with_reducible refine sv_us.trans ?_; exact rfl) | with_reducible assumption | with_reducible refine (sv_un (by omega)).trans ?_)) (Nat.le_of_ble_eq_true rfl) rfl ?_
  refine v_aload_n dX7_init_16 rfl 0 rfl ?_
  refine v_iconst (v := (-1)) dX7_init_17 (by decide) ?_
  refine v_putf 6 (fs' := [_, _, _, _, _, _, _, _]) (ci := 5) (C := RX7) (T := TX7) (N := 8) (ty := .int) rfl iwX7_init_X7 tyX7 tyX7_ok nmX7 (Nat.le_of_ble_eq_true rfl) (by decide +kernel) rfl rfl dX7_init_18 rfl rfl (by repeat (first | (with_reducible refine sv_us.trans ?_; exact rfl) | with_reducible assumption | with_reducible refine (sv_un (by omega)).trans ?_)) (Nat.le_of_ble_eq_true rfl) rfl ?_
  refine v_aload_n dX7_init_21 rfl 0 rfl ?_
  refine v_iconst (v := (-1)) dX7_init_22 (by decide) ?_
  refine v_putf 7 (fs' := [_, _, _, _, _, _, _, _]) (ci := 5) (C := RX7) (T := TX7) (N := 8) (ty := .int) rfl iwX7_init_X7 tyX7 tyX7_ok nmX7 (Nat.le_of_ble_eq_true rfl) (by decide +kernel) rfl rfl dX7_init_23 rfl rfl (by repeat (first | (with_reducible refine sv_us.trans ?_; exact rfl) | with_reducible assumption | with_reducible refine (sv_un (by omega)).trans ?_)) (Nat.le_of_ble_eq_true rfl) rfl ?_
  exact v_ret rfl dX7_init_26 (Nat.le_of_ble_eq_true rfl) (Nat.le_of_ble_eq_true rfl) ⟨rfl, rfl, by simp only [sv_uu, List.set]⟩

abbrev mX10_init : sv_M := (cX10_init, 1, yX10_init, wsX10_init, none, { frames := 1, cells := 3, slots := 21000, locals := 20 }, [])
set_option maxHeartbeats 4000000 in
set_option maxRecDepth 100000 in
theorem c_Told_init (G : sv_G) (h : sv_h) (z t : Nat) (hz : t < z) (ht : h t = some (.inr (8, [.null, .int 0, .null, .null, .int 0, .int 0, .int 0]))) : CT G mX10_init [.ref t] h z (fun v h1 z1 => v = none ∧ z1 = z + 3 ∧ h1 t = some (.inr (8, [.ref z, .int 0, .ref (z + 1), .ref (z + 2), .int 0, .int 0, .int 0])) ∧ h1 z = some (.inl (G.2.2.1 1, 18000, .inr (.inl (fun _ => 0)))) ∧ h1 (z + 1) = some (.inl (G.2.2.1 0, 1500, .inl (fun _ => 0))) ∧ h1 (z + 2) = some (.inl (G.2.2.1 0, 1500, .inl (fun _ => 0))) ∧ ∀ a, a < z → a ≠ t → h1 a = h a) := by
  refine CT.of (by decide +kernel) rfl rfl (Nat.le_of_ble_eq_true rfl) ?_
  refine v_aload_n dX10_init_0 rfl 0 rfl ?_
  refine v_objI (by decide +kernel) (by decide +kernel) (by decide +kernel) dX10_init_1 (Nat.le_of_ble_eq_true rfl) (Nat.le_of_ble_eq_true rfl) ?_
  refine v_aload_n dX10_init_4 rfl 0 rfl ?_
  refine v_sipush (v := 18000) dX10_init_5 (by decide) ?_
  refine v_newJ (N := 18000) (by decide +kernel) dX10_init_8 (by decide) (by decide) (by decide) (Nat.le_of_ble_eq_true rfl) (Nat.le_of_ble_eq_true rfl) ?_
  refine v_putF 0 (fs' := [_, _, _, _, _, _, _]) (ci := 8) (C := RX10) (T := TX10) (N := 7) (ty := (.array .long)) rfl iwX10_init_X10 tyX10 tyX10_ok nmX10 (Nat.le_of_ble_eq_true rfl) (by decide +kernel) rfl rfl rfl rfl dX10_init_10 rfl rfl (by repeat (first | (with_reducible refine sv_us.trans ?_; exact rfl) | with_reducible assumption | with_reducible refine (sv_un (by omega)).trans ?_)) (Nat.le_of_ble_eq_true rfl) rfl ?_
  refine v_aload_n dX10_init_13 rfl 0 rfl ?_
  refine v_sipush (v := 1500) dX10_init_14 (by decide) ?_
  refine v_newI (N := 1500) (by decide +kernel) dX10_init_17 (by decide) (by decide) (by decide) (Nat.le_of_ble_eq_true rfl) (Nat.le_of_ble_eq_true rfl) ?_
  refine v_putf 2 (fs' := [_, _, _, _, _, _, _]) (ci := 8) (C := RX10) (T := TX10) (N := 7) (ty := (.array .int)) rfl iwX10_init_X10 tyX10 tyX10_ok nmX10 (Nat.le_of_ble_eq_true rfl) (by decide +kernel) rfl rfl dX10_init_19 rfl rfl (by repeat (first | (with_reducible refine sv_us.trans ?_; exact rfl) | with_reducible assumption | with_reducible refine (sv_un (by omega)).trans ?_)) (Nat.le_of_ble_eq_true rfl) rfl ?_
  refine v_aload_n dX10_init_22 rfl 0 rfl ?_
  refine v_sipush (v := 1500) dX10_init_23 (by decide) ?_
  refine v_newI (N := 1500) (by decide +kernel) dX10_init_26 (by decide) (by decide) (by decide) (Nat.le_of_ble_eq_true rfl) (Nat.le_of_ble_eq_true rfl) ?_
  refine v_putf 3 (fs' := [_, _, _, _, _, _, _]) (ci := 8) (C := RX10) (T := TX10) (N := 7) (ty := (.array .int)) rfl iwX10_init_X10 tyX10 tyX10_ok nmX10 (Nat.le_of_ble_eq_true rfl) (by decide +kernel) rfl rfl dX10_init_28 rfl rfl (by repeat (first | (with_reducible refine sv_us.trans ?_; exact rfl) | with_reducible assumption | with_reducible refine (sv_un (by omega)).trans ?_)) (Nat.le_of_ble_eq_true rfl) rfl ?_
  exact v_ret rfl dX10_init_31 (Nat.le_of_ble_eq_true rfl) (Nat.le_of_ble_eq_true rfl) ⟨rfl, rfl, (by repeat (first | (with_reducible refine sv_us.trans ?_; exact rfl) | with_reducible assumption | with_reducible refine (sv_un (by omega)).trans ?_)), (by repeat (first | (with_reducible refine sv_us.trans ?_; exact rfl) | with_reducible assumption | with_reducible refine (sv_un (by omega)).trans ?_)), (by repeat (first | (with_reducible refine sv_us.trans ?_; exact rfl) | with_reducible assumption | with_reducible refine (sv_un (by omega)).trans ?_)), (by repeat (first | (with_reducible refine sv_us.trans ?_; exact rfl) | with_reducible assumption | with_reducible refine (sv_un (by omega)).trans ?_)), (fun a q1 q2 => by repeat (first | with_reducible rfl | with_reducible refine (sv_un (by omega)).trans ?_))⟩

abbrev mX11_init : sv_M := (cX11_init, 1, yX11_init, wsX11_init, none, { frames := 1, cells := 2, slots := 328, locals := 20 }, [])
set_option maxHeartbeats 4000000 in
set_option maxRecDepth 100000 in
theorem c_Waivers_init (G : sv_G) (h : sv_h) (z t : Nat) (hz : t < z) (ht : h t = some (.inr (9, [.null, .null, .int 0]))) : CT G mX11_init [.ref t] h z (fun v h1 z1 => v = none ∧ z1 = z + 2 ∧ h1 t = some (.inr (9, [.ref z, .ref (z + 1), .int 0])) ∧ h1 z = some (.inl (G.2.2.1 1, 320, .inr (.inl (fun _ => 0)))) ∧ h1 (z + 1) = some (.inl (G.2.2.1 1, 8, .inr (.inl (fun _ => 0)))) ∧ ∀ a, a < z → a ≠ t → h1 a = h a) := by
  refine CT.of (by decide +kernel) rfl rfl (Nat.le_of_ble_eq_true rfl) ?_
  refine v_aload_n dX11_init_0 rfl 0 rfl ?_
  refine v_objI (by decide +kernel) (by decide +kernel) (by decide +kernel) dX11_init_1 (Nat.le_of_ble_eq_true rfl) (Nat.le_of_ble_eq_true rfl) ?_
  refine v_aload_n dX11_init_4 rfl 0 rfl ?_
  refine v_sipush (v := 320) dX11_init_5 (by decide) ?_
  refine v_newJ (N := 320) (by decide +kernel) dX11_init_8 (by decide) (by decide) (by decide) (Nat.le_of_ble_eq_true rfl) (Nat.le_of_ble_eq_true rfl) ?_
  refine v_putF 0 (fs' := [_, _, _]) (ci := 9) (C := RX11) (T := TX11) (N := 3) (ty := (.array .long)) rfl iwX11_init_X11 tyX11 tyX11_ok nmX11 (Nat.le_of_ble_eq_true rfl) (by decide +kernel) rfl rfl rfl rfl dX11_init_10 rfl rfl (by repeat (first | (with_reducible refine sv_us.trans ?_; exact rfl) | with_reducible assumption | with_reducible refine (sv_un (by omega)).trans ?_)) (Nat.le_of_ble_eq_true rfl) rfl ?_
  refine v_aload_n dX11_init_13 rfl 0 rfl ?_
  refine v_bipush (v := 8) dX11_init_14 (by decide) ?_
  refine v_newJ (N := 8) (by decide +kernel) dX11_init_16 (by decide) (by decide) (by decide) (Nat.le_of_ble_eq_true rfl) (Nat.le_of_ble_eq_true rfl) ?_
  refine v_putF 1 (fs' := [_, _, _]) (ci := 9) (C := RX11) (T := TX11) (N := 3) (ty := (.array .long)) rfl iwX11_init_X11 tyX11 tyX11_ok nmX11 (Nat.le_of_ble_eq_true rfl) (by decide +kernel) rfl rfl rfl rfl dX11_init_18 rfl rfl (by repeat (first | (with_reducible refine sv_us.trans ?_; exact rfl) | with_reducible assumption | with_reducible refine (sv_un (by omega)).trans ?_)) (Nat.le_of_ble_eq_true rfl) rfl ?_
  exact v_ret rfl dX11_init_21 (Nat.le_of_ble_eq_true rfl) (Nat.le_of_ble_eq_true rfl) ⟨rfl, rfl, (by repeat (first | (with_reducible refine sv_us.trans ?_; exact rfl) | with_reducible assumption | with_reducible refine (sv_un (by omega)).trans ?_)), (by repeat (first | (with_reducible refine sv_us.trans ?_; exact rfl) | with_reducible assumption | with_reducible refine (sv_un (by omega)).trans ?_)), (by repeat (first | (with_reducible refine sv_us.trans ?_; exact rfl) | with_reducible assumption | with_reducible refine (sv_un (by omega)).trans ?_)), (fun a q1 q2 => by repeat (first | with_reducible rfl | with_reducible refine (sv_un (by omega)).trans ?_))⟩

abbrev mX3_init : sv_M := (cX3_init, 2, yX3_init, wsX3_init, none, { frames := 1, cells := 6, slots := 192, locals := 20 }, [])
set_option maxHeartbeats 4000000 in
set_option maxRecDepth 100000 in
theorem c_Layout_init (G : sv_G) (h : sv_h) (z t : Nat) (k : Int32) (hz : t < z) (ht : h t = some (.inr (1, [.int 0, .int 0, .null, .int 0, .null, .null, .null, .int 0, .null, .null]))) : CT G mX3_init [.ref t, .int k] h z (fun v h1 z1 => v = none ∧ z1 = z + 6 ∧ h1 t = some (.inr (1, [.int k, .int 0, .ref z, .int 0, .ref (z + 1), .ref (z + 2), .ref (z + 3), .int 0, .ref (z + 4), .ref (z + 5)])) ∧ h1 z = some (.inl (G.2.2.1 4, 64, .inr (.inr (.inr (.inr (fun _ => none)))))) ∧ h1 (z + 1) = some (.inl (G.2.2.1 0, 32, .inl (fun _ => 0))) ∧ h1 (z + 2) = some (.inl (G.2.2.1 0, 32, .inl (fun _ => 0))) ∧ h1 (z + 3) = some (.inl (G.2.2.1 3, 32, .inr (.inr (.inr (.inr (fun _ => none)))))) ∧ h1 (z + 4) = some (.inl (G.2.2.1 0, 16, .inl (fun _ => 0))) ∧ h1 (z + 5) = some (.inl (G.2.2.1 0, 16, .inl (fun _ => 0))) ∧ ∀ a, a < z → a ≠ t → h1 a = h a) := by
  refine CT.of (by decide +kernel) rfl rfl (Nat.le_of_ble_eq_true rfl) ?_
  refine v_aload_n dX3_init_0 rfl 0 rfl ?_
  refine v_objI (by decide +kernel) (by decide +kernel) (by decide +kernel) dX3_init_1 (Nat.le_of_ble_eq_true rfl) (Nat.le_of_ble_eq_true rfl) ?_
  refine v_aload_n dX3_init_4 rfl 0 rfl ?_
  refine v_bipush (v := 64) dX3_init_5 (by decide) ?_
  refine v_newQ (E := RX5) (t := 4) (N := 64) (by decide +kernel) dX3_init_7 (fun _ => rfl) (fun _ K => K.2.2.2.2.1) (by decide) (by decide) (by decide) (Nat.le_of_ble_eq_true rfl) (Nat.le_of_ble_eq_true rfl) ?_
  refine v_putF 2 (fs' := [_, _, _, _, _, _, _, _, _, _]) (ci := 1) (C := RX3) (T := TX3) (N := 10) (ty := (.array (.object "RuleDeck$Polygon"))) rfl iwX3_init_X3 tyX3 tyX3_ok nmX3 (Nat.le_of_ble_eq_true rfl) (by decide +kernel) rfl rfl rfl rfl dX3_init_10 rfl rfl (by repeat (first | (with_reducible refine sv_us.trans ?_; exact rfl) | with_reducible assumption | with_reducible refine (sv_un (by omega)).trans ?_)) (Nat.le_of_ble_eq_true rfl) rfl ?_
  refine v_aload_n dX3_init_13 rfl 0 rfl ?_
  refine v_bipush (v := 32) dX3_init_14 (by decide) ?_
  refine v_newI (N := 32) (by decide +kernel) dX3_init_16 (by decide) (by decide) (by decide) (Nat.le_of_ble_eq_true rfl) (Nat.le_of_ble_eq_true rfl) ?_
  refine v_putF 4 (fs' := [_, _, _, _, _, _, _, _, _, _]) (ci := 1) (C := RX3) (T := TX3) (N := 10) (ty := (.array .int)) rfl iwX3_init_X3 tyX3 tyX3_ok nmX3 (Nat.le_of_ble_eq_true rfl) (by decide +kernel) rfl rfl rfl rfl dX3_init_18 rfl rfl (by repeat (first | (with_reducible refine sv_us.trans ?_; exact rfl) | with_reducible assumption | with_reducible refine (sv_un (by omega)).trans ?_)) (Nat.le_of_ble_eq_true rfl) rfl ?_
  refine v_aload_n dX3_init_21 rfl 0 rfl ?_
  refine v_bipush (v := 32) dX3_init_22 (by decide) ?_
  refine v_newI (N := 32) (by decide +kernel) dX3_init_24 (by decide) (by decide) (by decide) (Nat.le_of_ble_eq_true rfl) (Nat.le_of_ble_eq_true rfl) ?_
  refine v_putF 5 (fs' := [_, _, _, _, _, _, _, _, _, _]) (ci := 1) (C := RX3) (T := TX3) (N := 10) (ty := (.array .int)) rfl iwX3_init_X3 tyX3 tyX3_ok nmX3 (Nat.le_of_ble_eq_true rfl) (by decide +kernel) rfl rfl rfl rfl dX3_init_26 rfl rfl (by repeat (first | (with_reducible refine sv_us.trans ?_; exact rfl) | with_reducible assumption | with_reducible refine (sv_un (by omega)).trans ?_)) (Nat.le_of_ble_eq_true rfl) rfl ?_
  refine v_aload_n dX3_init_29 rfl 0 rfl ?_
  refine v_bipush (v := 32) dX3_init_30 (by decide) ?_
  refine v_newQ (E := RX4) (t := 3) (N := 32) (by decide +kernel) dX3_init_32 (fun _ => rfl) (fun _ K => K.2.2.2.1) (by decide) (by decide) (by decide) (Nat.le_of_ble_eq_true rfl) (Nat.le_of_ble_eq_true rfl) ?_
  refine v_putF 6 (fs' := [_, _, _, _, _, _, _, _, _, _]) (ci := 1) (C := RX3) (T := TX3) (N := 10) (ty := (.array (.object "RuleDeck$Move"))) rfl iwX3_init_X3 tyX3 tyX3_ok nmX3 (Nat.le_of_ble_eq_true rfl) (by decide +kernel) rfl rfl rfl rfl dX3_init_35 rfl rfl (by repeat (first | (with_reducible refine sv_us.trans ?_; exact rfl) | with_reducible assumption | with_reducible refine (sv_un (by omega)).trans ?_)) (Nat.le_of_ble_eq_true rfl) rfl ?_
  refine v_aload_n dX3_init_38 rfl 0 rfl ?_
  refine v_bipush (v := 16) dX3_init_39 (by decide) ?_
  refine v_newI (N := 16) (by decide +kernel) dX3_init_41 (by decide) (by decide) (by decide) (Nat.le_of_ble_eq_true rfl) (Nat.le_of_ble_eq_true rfl) ?_
  refine v_putF 8 (fs' := [_, _, _, _, _, _, _, _, _, _]) (ci := 1) (C := RX3) (T := TX3) (N := 10) (ty := (.array .int)) rfl iwX3_init_X3 tyX3 tyX3_ok nmX3 (Nat.le_of_ble_eq_true rfl) (by decide +kernel) rfl rfl rfl rfl dX3_init_43 rfl rfl (by repeat (first | (with_reducible refine sv_us.trans ?_; exact rfl) | with_reducible assumption | with_reducible refine (sv_un (by omega)).trans ?_)) (Nat.le_of_ble_eq_true rfl) rfl ?_
  refine v_aload_n dX3_init_46 rfl 0 rfl ?_
  refine v_bipush (v := 16) dX3_init_47 (by decide) ?_
  refine v_newI (N := 16) (by decide +kernel) dX3_init_49 (by decide) (by decide) (by decide) (Nat.le_of_ble_eq_true rfl) (Nat.le_of_ble_eq_true rfl) ?_
  refine v_putF 9 (fs' := [_, _, _, _, _, _, _, _, _, _]) (ci := 1) (C := RX3) (T := TX3) (N := 10) (ty := (.array .int)) rfl iwX3_init_X3 tyX3 tyX3_ok nmX3 (Nat.le_of_ble_eq_true rfl) (by decide +kernel) rfl rfl rfl rfl dX3_init_51 rfl rfl (by repeat (first | (with_reducible refine sv_us.trans ?_; exact rfl) | with_reducible assumption | with_reducible refine (sv_un (by omega)).trans ?_)) (Nat.le_of_ble_eq_true rfl) rfl ?_
  refine v_aload_n dX3_init_54 rfl 0 rfl ?_
  refine v_iload_n dX3_init_55 rfl 1 rfl ?_
  refine v_putF 0 (fs' := [_, _, _, _, _, _, _, _, _, _]) (ci := 1) (C := RX3) (T := TX3) (N := 10) (ty := .int) rfl iwX3_init_X3 tyX3 tyX3_ok nmX3 (Nat.le_of_ble_eq_true rfl) (by decide +kernel) rfl rfl rfl rfl dX3_init_56 rfl rfl (by repeat (first | (with_reducible refine sv_us.trans ?_; exact rfl) | with_reducible assumption | with_reducible refine (sv_un (by omega)).trans ?_)) (Nat.le_of_ble_eq_true rfl) rfl ?_
  exact v_ret rfl dX3_init_59 (Nat.le_of_ble_eq_true rfl) (Nat.le_of_ble_eq_true rfl) ⟨rfl, rfl, (by repeat (first | (with_reducible refine sv_us.trans ?_; exact rfl) | with_reducible assumption | with_reducible refine (sv_un (by omega)).trans ?_)), (by repeat (first | (with_reducible refine sv_us.trans ?_; exact rfl) | with_reducible assumption | with_reducible refine (sv_un (by omega)).trans ?_)), (by repeat (first | (with_reducible refine sv_us.trans ?_; exact rfl) | with_reducible assumption | with_reducible refine (sv_un (by omega)).trans ?_)), (by repeat (first | (with_reducible refine sv_us.trans ?_; exact rfl) | with_reducible assumption | with_reducible refine (sv_un (by omega)).trans ?_)), (by repeat (first | (with_reducible refine sv_us.trans ?_; exact rfl) | with_reducible assumption | with_reducible refine (sv_un (by omega)).trans ?_)), (by repeat (first | (with_reducible refine sv_us.trans ?_; exact rfl) | with_reducible assumption | with_reducible refine (sv_un (by omega)).trans ?_)), (by repeat (first | (with_reducible refine sv_us.trans ?_; exact rfl) | with_reducible assumption | with_reducible refine (sv_un (by omega)).trans ?_)), (fun a q1 q2 => by repeat (first | with_reducible rfl | with_reducible refine (sv_un (by omega)).trans ?_))⟩
