theorem iwX5_init_X5 : ∀ w ∈ wsX50, w ∈ wsX5_init := by decide +kernel
theorem iwX3_addPolygon_X3 : ∀ w ∈ wsX30, w ∈ wsX3_addPolygon := by decide +kernel
theorem iwX3_addPolygon_X5 : ∀ w ∈ wsX50, w ∈ wsX3_addPolygon := by decide +kernel
set_option maxRecDepth 20000 in
theorem ggX3_addPolygon_X5_init : GoodIn wsX3_addPolygon wsX5_init := goodIn_r _ [8, 9, 10, 11, 12, 13, 14, 15, 16, 17, 18, 29, 30, 31, 32, 33, 34, 35, 36, 37, 38] (by decide +kernel) (by decide +kernel)
theorem dX3_addPolygon_0 : decode cX3_addPolygon 0 = .ok (.aload_n 0, 1) := by decide +kernel
theorem dX3_addPolygon_1 : decode cX3_addPolygon 1 = .ok (.getfield 11, 3) := by decide +kernel
theorem dX3_addPolygon_4 : decode cX3_addPolygon 4 = .ok (.aload_n 0, 1) := by decide +kernel
theorem dX3_addPolygon_5 : decode cX3_addPolygon 5 = .ok (.getfield 43, 3) := by decide +kernel
theorem dX3_addPolygon_8 : decode cX3_addPolygon 8 = .ok (.new 9, 3) := by decide +kernel
theorem dX3_addPolygon_11 : decode cX3_addPolygon 11 = .ok (.dup, 1) := by decide +kernel
theorem dX3_addPolygon_12 : decode cX3_addPolygon 12 = .ok (.iload_n 1, 1) := by decide +kernel
theorem dX3_addPolygon_13 : decode cX3_addPolygon 13 = .ok (.iload_n 2, 1) := by decide +kernel
theorem dX3_addPolygon_14 : decode cX3_addPolygon 14 = .ok (.invokespecial 46, 3) := by decide +kernel
theorem dX3_addPolygon_17 : decode cX3_addPolygon 17 = .ok (.aastore, 1) := by decide +kernel
theorem dX3_addPolygon_18 : decode cX3_addPolygon 18 = .ok (.aload_n 0, 1) := by decide +kernel
theorem dX3_addPolygon_19 : decode cX3_addPolygon 19 = .ok (.dup, 1) := by decide +kernel
theorem dX3_addPolygon_20 : decode cX3_addPolygon 20 = .ok (.getfield 43, 3) := by decide +kernel
theorem dX3_addPolygon_23 : decode cX3_addPolygon 23 = .ok (.iconst 1, 1) := by decide +kernel
theorem dX3_addPolygon_24 : decode cX3_addPolygon 24 = .ok (.iadd, 1) := by decide +kernel
theorem dX3_addPolygon_25 : decode cX3_addPolygon 25 = .ok (.putfield 43, 3) := by decide +kernel
theorem dX3_addPolygon_28 : decode cX3_addPolygon 28 = .ok (.aload_n 0, 1) := by decide +kernel
theorem dX3_addPolygon_29 : decode cX3_addPolygon 29 = .ok (.getfield 43, 3) := by decide +kernel
theorem dX3_addPolygon_32 : decode cX3_addPolygon 32 = .ok (.iconst 1, 1) := by decide +kernel
theorem dX3_addPolygon_33 : decode cX3_addPolygon 33 = .ok (.isub, 1) := by decide +kernel
theorem dX3_addPolygon_34 : decode cX3_addPolygon 34 = .ok (.ireturn, 1) := by decide +kernel
theorem dX5_init_0 : decode cX5_init 0 = .ok (.aload_n 0, 1) := by decide +kernel
theorem dX5_init_1 : decode cX5_init 1 = .ok (.invokespecial 3, 3) := by decide +kernel
theorem dX5_init_4 : decode cX5_init 4 = .ok (.aload_n 0, 1) := by decide +kernel
theorem dX5_init_5 : decode cX5_init 5 = .ok (.bipush 16, 2) := by decide +kernel
theorem dX5_init_7 : decode cX5_init 7 = .ok (.newarray .int, 2) := by decide +kernel
theorem dX5_init_9 : decode cX5_init 9 = .ok (.putfield 9, 3) := by decide +kernel
theorem dX5_init_12 : decode cX5_init 12 = .ok (.aload_n 0, 1) := by decide +kernel
theorem dX5_init_13 : decode cX5_init 13 = .ok (.bipush 16, 2) := by decide +kernel
theorem dX5_init_15 : decode cX5_init 15 = .ok (.newarray .int, 2) := by decide +kernel
theorem dX5_init_17 : decode cX5_init 17 = .ok (.putfield 15, 3) := by decide +kernel
theorem dX5_init_20 : decode cX5_init 20 = .ok (.aload_n 0, 1) := by decide +kernel
theorem dX5_init_21 : decode cX5_init 21 = .ok (.bipush 16, 2) := by decide +kernel
theorem dX5_init_23 : decode cX5_init 23 = .ok (.newarray .int, 2) := by decide +kernel
theorem dX5_init_25 : decode cX5_init 25 = .ok (.putfield 18, 3) := by decide +kernel
theorem dX5_init_28 : decode cX5_init 28 = .ok (.aload_n 0, 1) := by decide +kernel
theorem dX5_init_29 : decode cX5_init 29 = .ok (.bipush 16, 2) := by decide +kernel
theorem dX5_init_31 : decode cX5_init 31 = .ok (.newarray .int, 2) := by decide +kernel
theorem dX5_init_33 : decode cX5_init 33 = .ok (.putfield 21, 3) := by decide +kernel
theorem dX5_init_36 : decode cX5_init 36 = .ok (.aload_n 0, 1) := by decide +kernel
theorem dX5_init_37 : decode cX5_init 37 = .ok (.iload_n 1, 1) := by decide +kernel
theorem dX5_init_38 : decode cX5_init 38 = .ok (.putfield 24, 3) := by decide +kernel
theorem dX5_init_41 : decode cX5_init 41 = .ok (.aload_n 0, 1) := by decide +kernel
theorem dX5_init_42 : decode cX5_init 42 = .ok (.iload_n 2, 1) := by decide +kernel
theorem dX5_init_43 : decode cX5_init 43 = .ok (.putfield 28, 3) := by decide +kernel
theorem dX5_init_46 : decode cX5_init 46 = .ok (.return_, 1) := by decide +kernel

abbrev mX5_init : sv_M := (cX5_init, 3, yX5_init, wsX5_init, none, { frames := 1, cells := 4, slots := 64, locals := 20 }, [])
set_option maxHeartbeats 4000000 in
set_option maxRecDepth 100000 in
theorem c_Polygon_init (G : sv_G) (h : sv_h) (z t : Nat) (hm ly : Int32) (hz : t < z) (ht : h t = some (.inr (3, [.int 0, .int 0, .null, .null, .int 0, .int 0, .int 0, .int 0, .null, .null]))) : CT G mX5_init [.ref t, .int hm, .int ly] h z (fun v h1 z1 => v = none ∧ z1 = z + 4 ∧ h1 t = some (.inr (3, [.int hm, .int ly, .ref (z), .ref (z + 1), .int 0, .int 0, .int 0, .int 0, .ref (z + 2), .ref (z + 3)])) ∧ h1 z = some (.inl (G.2.2.1 0, 16, .inl (fun _ => 0))) ∧ h1 (z + 1) = some (.inl (G.2.2.1 0, 16, .inl (fun _ => 0))) ∧ h1 (z + 2) = some (.inl (G.2.2.1 0, 16, .inl (fun _ => 0))) ∧ h1 (z + 3) = some (.inl (G.2.2.1 0, 16, .inl (fun _ => 0))) ∧ ∀ a, a < z → a ≠ t → h1 a = h a) := by
  refine CT.of (by decide +kernel) rfl rfl (Nat.le_of_ble_eq_true rfl) ?_
  refine v_aload_n dX5_init_0 rfl 0 rfl ?_
  refine v_objI (by decide +kernel) (by decide +kernel) (by decide +kernel) dX5_init_1 (Nat.le_of_ble_eq_true rfl) (Nat.le_of_ble_eq_true rfl) ?_
  refine v_aload_n dX5_init_4 rfl 0 rfl ?_
  refine v_bipush (v := 16) dX5_init_5 (by decide) ?_
  refine v_newI (N := 16) (by decide +kernel) dX5_init_7 (by decide) (by decide) (by decide) (Nat.le_of_ble_eq_true rfl) (Nat.le_of_ble_eq_true rfl) ?_
  refine v_putF 2 (fs' := [_, _, _, _, _, _, _, _, _, _]) (ci := 3) (C := RX5) (T := TX5) (N := 10) (ty := (.array .int)) rfl iwX5_init_X5 tyX5 tyX5_ok nmX5 (Nat.le_of_ble_eq_true rfl) (by decide +kernel) rfl rfl rfl rfl dX5_init_9 rfl rfl (by repeat (first | (with_reducible refine sv_us.trans ?_; exact rfl) | with_reducible assumption | with_reducible refine (sv_un (by omega)).trans ?_)) (Nat.le_of_ble_eq_true rfl) rfl ?_
  refine v_aload_n dX5_init_12 rfl 0 rfl ?_
  refine v_bipush (v := 16) dX5_init_13 (by decide) ?_
  refine v_newI (N := 16) (by decide +kernel) dX5_init_15 (by decide) (by decide) (by decide) (Nat.le_of_ble_eq_true rfl) (Nat.le_of_ble_eq_true rfl) ?_
  refine v_putF 3 (fs' := [_, _, _, _, _, _, _, _, _, _]) (ci := 3) (C := RX5) (T := TX5) (N := 10) (ty := (.array .int)) rfl iwX5_init_X5 tyX5 tyX5_ok nmX5 (Nat.le_of_ble_eq_true rfl) (by decide +kernel) rfl rfl rfl rfl dX5_init_17 rfl rfl (by repeat (first | (with_reducible refine sv_us.trans ?_; exact rfl) | with_reducible assumption | with_reducible refine (sv_un (by omega)).trans ?_)) (Nat.le_of_ble_eq_true rfl) rfl ?_
  refine v_aload_n dX5_init_20 rfl 0 rfl ?_
  refine v_bipush (v := 16) dX5_init_21 (by decide) ?_
  refine v_newI (N := 16) (by decide +kernel) dX5_init_23 (by decide) (by decide) (by decide) (Nat.le_of_ble_eq_true rfl) (Nat.le_of_ble_eq_true rfl) ?_
  refine v_putF 8 (fs' := [_, _, _, _, _, _, _, _, _, _]) (ci := 3) (C := RX5) (T := TX5) (N := 10) (ty := (.array .int)) rfl iwX5_init_X5 tyX5 tyX5_ok nmX5 (Nat.le_of_ble_eq_true rfl) (by decide +kernel) rfl rfl rfl rfl dX5_init_25 rfl rfl (by repeat (first | (with_reducible refine sv_us.trans ?_; exact rfl) | with_reducible assumption | with_reducible refine (sv_un (by omega)).trans ?_)) (Nat.le_of_ble_eq_true rfl) rfl ?_
  refine v_aload_n dX5_init_28 rfl 0 rfl ?_
  refine v_bipush (v := 16) dX5_init_29 (by decide) ?_
  refine v_newI (N := 16) (by decide +kernel) dX5_init_31 (by decide) (by decide) (by decide) (Nat.le_of_ble_eq_true rfl) (Nat.le_of_ble_eq_true rfl) ?_
  refine v_putF 9 (fs' := [_, _, _, _, _, _, _, _, _, _]) (ci := 3) (C := RX5) (T := TX5) (N := 10) (ty := (.array .int)) rfl iwX5_init_X5 tyX5 tyX5_ok nmX5 (Nat.le_of_ble_eq_true rfl) (by decide +kernel) rfl rfl rfl rfl dX5_init_33 rfl rfl (by repeat (first | (with_reducible refine sv_us.trans ?_; exact rfl) | with_reducible assumption | with_reducible refine (sv_un (by omega)).trans ?_)) (Nat.le_of_ble_eq_true rfl) rfl ?_
  refine v_aload_n dX5_init_36 rfl 0 rfl ?_
  refine v_iload_n dX5_init_37 rfl 1 rfl ?_
  refine v_putF 0 (fs' := [_, _, _, _, _, _, _, _, _, _]) (ci := 3) (C := RX5) (T := TX5) (N := 10) (ty := .int) rfl iwX5_init_X5 tyX5 tyX5_ok nmX5 (Nat.le_of_ble_eq_true rfl) (by decide +kernel) rfl rfl rfl rfl dX5_init_38 rfl rfl (by repeat (first | (with_reducible refine sv_us.trans ?_; exact rfl) | with_reducible assumption | with_reducible refine (sv_un (by omega)).trans ?_)) (Nat.le_of_ble_eq_true rfl) rfl ?_
  refine v_aload_n dX5_init_41 rfl 0 rfl ?_
  refine v_iload_n dX5_init_42 rfl 2 rfl ?_
  refine v_putF 1 (fs' := [_, _, _, _, _, _, _, _, _, _]) (ci := 3) (C := RX5) (T := TX5) (N := 10) (ty := .int) rfl iwX5_init_X5 tyX5 tyX5_ok nmX5 (Nat.le_of_ble_eq_true rfl) (by decide +kernel) rfl rfl rfl rfl dX5_init_43 rfl rfl (by repeat (first | (with_reducible refine sv_us.trans ?_; exact rfl) | with_reducible assumption | with_reducible refine (sv_un (by omega)).trans ?_)) (Nat.le_of_ble_eq_true rfl) rfl ?_
  exact v_ret rfl dX5_init_46 (Nat.le_of_ble_eq_true rfl) (Nat.le_of_ble_eq_true rfl) ⟨rfl, rfl, (by repeat (first | (with_reducible refine sv_us.trans ?_; exact rfl) | with_reducible assumption | with_reducible refine (sv_un (by omega)).trans ?_)), (by repeat (first | (with_reducible refine sv_us.trans ?_; exact rfl) | with_reducible assumption | with_reducible refine (sv_un (by omega)).trans ?_)), (by repeat (first | (with_reducible refine sv_us.trans ?_; exact rfl) | with_reducible assumption | with_reducible refine (sv_un (by omega)).trans ?_)), (by repeat (first | (with_reducible refine sv_us.trans ?_; exact rfl) | with_reducible assumption | with_reducible refine (sv_un (by omega)).trans ?_)), (by repeat (first | (with_reducible refine sv_us.trans ?_; exact rfl) | with_reducible assumption | with_reducible refine (sv_un (by omega)).trans ?_)), (fun a q1 q2 => by repeat (first | with_reducible rfl | with_reducible refine (sv_un (by omega)).trans ?_))⟩

abbrev mX3_addPolygon : sv_M := (cX3_addPolygon, 3, yX3_addPolygon, wsX3_addPolygon, (some .int), { frames := 2, cells := 5, slots := 74, locals := 42 }, [])
set_option maxHeartbeats 4000000 in
set_option maxRecDepth 100000 in
theorem c_addPolygon (G : sv_G) (h : sv_h) (z ly np : Nat) (c l : Int32) (f : Nat → Option Nat) (po hd hs mo he nh : Nat) (k cs pl : Int32) (hly : h ly = some (.inr (1, [.int k, .int cs, .ref po, .int (nI np), .ref hd, .ref hs, .ref mo, .int pl, .ref he, .ref nh]))) (hpo : h po = some (.inl (G.2.2.1 4, 64, .inr (.inr (.inr (.inr f)))))) (hn : np < 64) (hne : ly ≠ po) (hlz : ly < z) (hpz : po < z) : CT G mX3_addPolygon [.ref ly, .int c, .int l] h z (fun v h1 z1 => v = some (.int (nI np + 1 - 1)) ∧ z1 = z + 5 ∧ h1 ly = some (.inr (1, [.int k, .int cs, .ref po, .int (nI np + 1), .ref hd, .ref hs, .ref mo, .int pl, .ref he, .ref nh])) ∧ h1 po = some (.inl (G.2.2.1 4, 64, .inr (.inr (.inr (.inr (va_up f np (some z))))))) ∧ h1 z = some (.inr (3, [.int c, .int l, .ref (z + 1), .ref (z + 2), .int 0, .int 0, .int 0, .int 0, .ref (z + 3), .ref (z + 4)])) ∧ h1 (z + 1) = some (.inl (G.2.2.1 0, 16, .inl (fun _ => 0))) ∧ h1 (z + 2) = some (.inl (G.2.2.1 0, 16, .inl (fun _ => 0))) ∧ h1 (z + 3) = some (.inl (G.2.2.1 0, 16, .inl (fun _ => 0))) ∧ h1 (z + 4) = some (.inl (G.2.2.1 0, 16, .inl (fun _ => 0))) ∧ ∀ a, a < z → a ≠ ly → a ≠ po → h1 a = h a) := by
  refine CT.of (by decide +kernel) rfl rfl (Nat.le_of_ble_eq_true rfl) ?_
  refine v_aload_n dX3_addPolygon_0 rfl 0 rfl ?_
  refine v_getf 2 (ci := 1) (C := RX3) (T := TX3) (N := 10) rfl iwX3_addPolygon_X3 (Nat.le_of_ble_eq_true rfl) (by decide +kernel) dX3_addPolygon_1 (by repeat (first | (with_reducible refine sv_us.trans ?_; exact rfl) | with_reducible assumption | with_reducible refine (sv_un (by omega)).trans ?_)) rfl ?_
  refine v_aload_n dX3_addPolygon_4 rfl 0 rfl ?_
  refine v_getf 3 (ci := 1) (C := RX3) (T := TX3) (N := 10) rfl iwX3_addPolygon_X3 (Nat.le_of_ble_eq_true rfl) (by decide +kernel) dX3_addPolygon_5 (by repeat (first | (with_reducible refine sv_us.trans ?_; exact rfl) | with_reducible assumption | with_reducible refine (sv_un (by omega)).trans ?_)) rfl ?_
  refine v_new (ci := 3) (C := RX5) (T := TX5) (N := 10) (fs := [.int 0, .int 0, .null, .null, .int 0, .int 0, .int 0, .int 0, .null, .null]) rfl iwX3_addPolygon_X5 tyX5 tyX5_ok (by decide +kernel) (by decide +kernel) (by decide +kernel) dX3_addPolygon_8 (by decide +kernel) (Nat.le_of_ble_eq_true rfl) (Nat.le_of_ble_eq_true rfl) ?_
  refine v_dup dX3_addPolygon_11 rfl ?_
  refine v_iload_n dX3_addPolygon_12 rfl 1 rfl ?_
  refine v_iload_n dX3_addPolygon_13 rfl 2 rfl ?_
  refine v_callI (M' := mX5_init) (n := 2) (As := [_, _]) ggX3_addPolygon_X5_init (by decide +kernel) (by decide +kernel) (by decide +kernel) rfl rfl (by decide +kernel) ⟨(Nat.le_of_ble_eq_true rfl), (Nat.le_of_ble_eq_true rfl)⟩ dX3_addPolygon_14 rfl ⟨(Nat.le_of_ble_eq_true rfl), (Nat.le_of_ble_eq_true rfl)⟩ (Nat.le_of_ble_eq_true rfl) rfl (c_Polygon_init G _ _ z c l (by omega) sv_us) (fun v h1 z1 hq => ?_)
  obtain ⟨rfl, rfl, e1, e2, e3, e4, e5, e6⟩ := hq
  refine v_aast (t := 4) (r := (RX5, TX5, 10)) (ci := 3) dX3_addPolygon_17 (fun _ => rfl) rfl (by repeat (first | (with_reducible refine sv_us.trans ?_; exact rfl) | with_reducible assumption | with_reducible refine (sv_un (by omega)).trans ?_ | with_reducible refine (e6 _ (by omega) (by omega)).trans ?_)) e1 (vp_in_nI hn (by omega)) ?_
  refine v_aload_n dX3_addPolygon_18 rfl 0 rfl ?_
  refine v_dup dX3_addPolygon_19 rfl ?_
  refine v_getf 3 (ci := 1) (C := RX3) (T := TX3) (N := 10) rfl iwX3_addPolygon_X3 (Nat.le_of_ble_eq_true rfl) (by decide +kernel) dX3_addPolygon_20 (by repeat (first | (with_reducible refine sv_us.trans ?_; exact rfl) | with_reducible assumption | with_reducible refine (sv_un (by omega)).trans ?_ | with_reducible refine (e6 _ (by omega) (by omega)).trans ?_)) rfl ?_
  refine v_iconst (v := 1) dX3_addPolygon_23 (by decide) ?_
  refine v_iadd dX3_addPolygon_24 ?_
  refine v_putf 3 (fs' := [_, _, _, _, _, _, _, _, _, _]) (ci := 1) (C := RX3) (T := TX3) (N := 10) (ty := .int) rfl iwX3_addPolygon_X3 tyX3 tyX3_ok nmX3 (Nat.le_of_ble_eq_true rfl) (by decide +kernel) rfl rfl dX3_addPolygon_25 rfl rfl (by repeat (first | (with_reducible refine sv_us.trans ?_; exact rfl) | with_reducible assumption | with_reducible refine (sv_un (by omega)).trans ?_ | with_reducible refine (e6 _ (by omega) (by omega)).trans ?_)) (Nat.le_of_ble_eq_true rfl) rfl ?_
  refine v_aload_n dX3_addPolygon_28 rfl 0 rfl ?_
  refine v_getf 3 (ci := 1) (C := RX3) (T := TX3) (N := 10) rfl iwX3_addPolygon_X3 (Nat.le_of_ble_eq_true rfl) (by decide +kernel) dX3_addPolygon_29 (by repeat (first | (with_reducible refine sv_us.trans ?_; exact rfl) | with_reducible assumption | with_reducible refine (sv_un (by omega)).trans ?_ | with_reducible refine (e6 _ (by omega) (by omega)).trans ?_)) rfl ?_
  refine v_iconst (v := 1) dX3_addPolygon_32 (by decide) ?_
  refine v_isub dX3_addPolygon_33 ?_
  exact v_iret rfl dX3_addPolygon_34 (Nat.le_of_ble_eq_true rfl) (Nat.le_of_ble_eq_true rfl) rfl ⟨rfl, rfl, (by repeat (first | (with_reducible refine sv_us.trans ?_; exact rfl) | with_reducible assumption | with_reducible refine (sv_un (by omega)).trans ?_ | with_reducible refine (e6 _ (by omega) (by omega)).trans ?_)), ((sv_un (fun q => hne q.symm)).trans (sv_us.trans (by rw [nI_clamp (n := np) (by omega)]))), (by repeat (first | (with_reducible refine sv_us.trans ?_; exact rfl) | with_reducible assumption | with_reducible refine (sv_un (by omega)).trans ?_ | with_reducible refine (e6 _ (by omega) (by omega)).trans ?_)), (by repeat (first | (with_reducible refine sv_us.trans ?_; exact rfl) | with_reducible assumption | with_reducible refine (sv_un (by omega)).trans ?_ | with_reducible refine (e6 _ (by omega) (by omega)).trans ?_)), (by repeat (first | (with_reducible refine sv_us.trans ?_; exact rfl) | with_reducible assumption | with_reducible refine (sv_un (by omega)).trans ?_ | with_reducible refine (e6 _ (by omega) (by omega)).trans ?_)), (by repeat (first | (with_reducible refine sv_us.trans ?_; exact rfl) | with_reducible assumption | with_reducible refine (sv_un (by omega)).trans ?_ | with_reducible refine (e6 _ (by omega) (by omega)).trans ?_)), (by repeat (first | (with_reducible refine sv_us.trans ?_; exact rfl) | with_reducible assumption | with_reducible refine (sv_un (by omega)).trans ?_ | with_reducible refine (e6 _ (by omega) (by omega)).trans ?_)), (fun a q1 q2 q3 => by repeat (first | with_reducible rfl | with_reducible refine (sv_un (by omega)).trans ?_ | with_reducible refine (e6 _ (by omega) (by omega)).trans ?_))⟩

set_option maxHeartbeats 4000000 in
set_option maxRecDepth 100000 in
theorem c_polygon (G : sv_G) (hl0 : G.1.stackTraces = false) (h : sv_h) (z b np : Nat) (c l : Int32) (f : Nat → Option Nat) (ly tp rd ck wv ru la fo fl lo : Nat) (rc lr lf : Int32) (hb : h b = some (.inr (10, [.ref ly, .ref tp, .ref rd, .ref ck, .ref wv, .ref ru, .int rc, .int lr, .int lf, .ref la, .ref fo, .ref fl, .ref lo]))) (po hd hs mo he nh : Nat) (k cs pl : Int32) (hly : h ly = some (.inr (1, [.int k, .int cs, .ref po, .int (nI np), .ref hd, .ref hs, .ref mo, .int pl, .ref he, .ref nh]))) (hpo : h po = some (.inl (G.2.2.1 4, 64, .inr (.inr (.inr (.inr f)))))) (hn : np < 64) (hne : ly ≠ po) (hlz : ly < z) (hpz : po < z) (hg : 0 ≤ c ∧ c < cs) (hl : 0 ≤ l ∧ l < k) : CX G mX12_polygon [.ref b, .int c, .int l] h z (fun v h1 z1 => v = some (.int (nI np + 1 - 1)) ∧ z1 = z + 5 ∧ h1 ly = some (.inr (1, [.int k, .int cs, .ref po, .int (nI np + 1), .ref hd, .ref hs, .ref mo, .int pl, .ref he, .ref nh])) ∧ h1 po = some (.inl (G.2.2.1 4, 64, .inr (.inr (.inr (.inr (va_up f np (some z))))))) ∧ h1 z = some (.inr (3, [.int c, .int l, .ref (z + 1), .ref (z + 2), .int 0, .int 0, .int 0, .int 0, .ref (z + 3), .ref (z + 4)])) ∧ h1 (z + 1) = some (.inl (G.2.2.1 0, 16, .inl (fun _ => 0))) ∧ h1 (z + 2) = some (.inl (G.2.2.1 0, 16, .inl (fun _ => 0))) ∧ h1 (z + 3) = some (.inl (G.2.2.1 0, 16, .inl (fun _ => 0))) ∧ h1 (z + 4) = some (.inl (G.2.2.1 0, 16, .inl (fun _ => 0))) ∧ ∀ a, a < z → a ≠ ly → a ≠ po → h1 a = h a) (fun _ _ _ => False) := by
  refine CX.of (by decide +kernel) rfl rfl (Nat.le_of_ble_eq_true rfl) ?_
  refine v_aload_n dX12_polygon_0 rfl 0 rfl ?_
  refine v_getf 0 (ci := 10) (C := RX12) (T := TX12) (N := 13) rfl iwX12_polygon_X12 (Nat.le_of_ble_eq_true rfl) (by decide +kernel) dX12_polygon_1 (by repeat (first | (with_reducible refine sv_us.trans ?_; exact rfl) | with_reducible assumption | with_reducible refine (sv_un (by omega)).trans ?_)) rfl ?_
  refine v_iload_n dX12_polygon_4 rfl 1 rfl ?_
  refine v_callV (M' := mX3_hasCell) (n := 1) (As := [_]) (ci := 1) (r := (RX3, TX3, 10)) gX12_polygon_X3_hasCell rfl (by decide +kernel) ⟨(Nat.le_of_ble_eq_true rfl), (Nat.le_of_ble_eq_true rfl)⟩ rfl rfl dX12_polygon_5 rfl ⟨(Nat.le_of_ble_eq_true rfl), (Nat.le_of_ble_eq_true rfl)⟩ (Nat.le_of_ble_eq_true rfl) (by repeat (first | (with_reducible refine sv_us.trans ?_; exact rfl) | with_reducible assumption | with_reducible refine (sv_un (by omega)).trans ?_)) rfl (c_hasCell G _ _ _ _ _ _ _ _ _ _ _ _ _ _ hly) (fun v h1 z1 hq => ?_)
  rw [if_pos hg] at hq
  obtain ⟨rfl, rfl, rfl⟩ := hq
  refine v_if_eq (tgt := 26) dX12_polygon_8 (by decide) (fun c_8 => ?_) (fun c_8 => ?_)
  · exact absurd c_8 (by decide)
  · refine v_iload_n dX12_polygon_11 rfl 2 rfl ?_
    refine v_if_lt (tgt := 26) dX12_polygon_12 (by decide) (fun c_12 => ?_) (fun c_12 => ?_)
    · exact absurd hl.1 (by simp only [Int32.lt_iff_toInt_lt, Int32.le_iff_toInt_le, sv_i0, sv_i1, sv_i2, sv_i3, sv_i4, sv_i5, sv_i6, sv_i7, sv_i8, sv_i9, sv_i10, sv_i16, sv_i17, sv_i20, sv_i32, sv_i40, sv_i64, sv_i100, sv_i126, sv_i255, sv_i600, sv_i1500, sv_i65536, sv_im1] at *; omega)
    · refine v_iload_n dX12_polygon_15 rfl 2 rfl ?_
      refine v_aload_n dX12_polygon_16 rfl 0 rfl ?_
      refine v_getf 0 (ci := 10) (C := RX12) (T := TX12) (N := 13) rfl iwX12_polygon_X12 (Nat.le_of_ble_eq_true rfl) (by decide +kernel) dX12_polygon_17 (by repeat (first | (with_reducible refine sv_us.trans ?_; exact rfl) | with_reducible assumption | with_reducible refine (sv_un (by omega)).trans ?_)) rfl ?_
      refine v_getf 0 (ci := 1) (C := RX3) (T := TX3) (N := 10) rfl iwX12_polygon_X3 (Nat.le_of_ble_eq_true rfl) (by decide +kernel) dX12_polygon_20 (by repeat (first | (with_reducible refine sv_us.trans ?_; exact rfl) | with_reducible assumption | with_reducible refine (sv_un (by omega)).trans ?_)) rfl ?_
      refine v_icmp_lt (tgt := 36) dX12_polygon_23 (by decide) (fun c_23 => ?_) (fun c_23 => ?_)
      · refine v_aload_n dX12_polygon_36 rfl 0 rfl ?_
        refine v_getf 0 (ci := 10) (C := RX12) (T := TX12) (N := 13) rfl iwX12_polygon_X12 (Nat.le_of_ble_eq_true rfl) (by decide +kernel) dX12_polygon_37 (by repeat (first | (with_reducible refine sv_us.trans ?_; exact rfl) | with_reducible assumption | with_reducible refine (sv_un (by omega)).trans ?_)) rfl ?_
        refine v_getf 3 (ci := 1) (C := RX3) (T := TX3) (N := 10) rfl iwX12_polygon_X3 (Nat.le_of_ble_eq_true rfl) (by decide +kernel) dX12_polygon_40 (by repeat (first | (with_reducible refine sv_us.trans ?_; exact rfl) | with_reducible assumption | with_reducible refine (sv_un (by omega)).trans ?_)) rfl ?_
        refine v_bipush (v := 64) dX12_polygon_43 (by decide) ?_
        refine v_icmp_lt (tgt := 58) dX12_polygon_45 (by decide) (fun c_45 => ?_) (fun c_45 => ?_)
        · refine v_aload_n dX12_polygon_58 rfl 0 rfl ?_
          refine v_getf 0 (ci := 10) (C := RX12) (T := TX12) (N := 13) rfl iwX12_polygon_X12 (Nat.le_of_ble_eq_true rfl) (by decide +kernel) dX12_polygon_59 (by repeat (first | (with_reducible refine sv_us.trans ?_; exact rfl) | with_reducible assumption | with_reducible refine (sv_un (by omega)).trans ?_)) rfl ?_
          refine v_iload_n dX12_polygon_62 rfl 1 rfl ?_
          refine v_iload_n dX12_polygon_63 rfl 2 rfl ?_
          refine v_callV (M' := mX3_addPolygon) (n := 2) (As := [_, _]) (ci := 1) (r := (RX3, TX3, 10)) gX12_polygon_X3_addPolygon rfl (by decide +kernel) ⟨(Nat.le_of_ble_eq_true rfl), (Nat.le_of_ble_eq_true rfl)⟩ rfl rfl dX12_polygon_64 rfl ⟨(Nat.le_of_ble_eq_true rfl), (Nat.le_of_ble_eq_true rfl)⟩ (Nat.le_of_ble_eq_true rfl) (by repeat (first | (with_reducible refine sv_us.trans ?_; exact rfl) | with_reducible assumption | with_reducible refine (sv_un (by omega)).trans ?_)) rfl (c_addPolygon G _ _ ly np c l f _ _ _ _ _ _ _ _ _ hly hpo hn hne hlz hpz) (fun v h1 z1 hq => ?_)
          obtain ⟨rfl, rfl, hq⟩ := hq
          exact v_xret (v_iret rfl dX12_polygon_67 (Nat.le_of_ble_eq_true rfl) (Nat.le_of_ble_eq_true rfl) rfl ⟨rfl, rfl, hq⟩)
        · exact absurd (nI_lt (b := 64) hn (by omega)) c_45
      · exact absurd hl.2 c_23

set_option maxHeartbeats 4000000 in
set_option maxRecDepth 100000 in
theorem c_polygon_l (G : sv_G) (hl0 : G.1.stackTraces = false) (h : sv_h) (z b : Nat) (c l : Int32) (ly tp rd ck wv ru la fo fl lo : Nat) (rc lr lf : Int32) (hb : h b = some (.inr (10, [.ref ly, .ref tp, .ref rd, .ref ck, .ref wv, .ref ru, .int rc, .int lr, .int lf, .ref la, .ref fo, .ref fl, .ref lo]))) (po hd hs mo he nh : Nat) (k cs pn pl : Int32) (hly : h ly = some (.inr (1, [.int k, .int cs, .ref po, .int pn, .ref hd, .ref hs, .ref mo, .int pl, .ref he, .ref nh]))) (hg : 0 ≤ c ∧ c < cs) (hl : ¬ (0 ≤ l ∧ l < k)) : CX G mX12_polygon [.ref b, .int c, .int l] h z (fun _ _ _ => False) (fun E h1 z1 => E = "java/lang/IndexOutOfBoundsException" ∧ h1 = h) := by
  refine CX.of (by decide +kernel) rfl rfl (Nat.le_of_ble_eq_true rfl) ?_
  refine v_aload_n dX12_polygon_0 rfl 0 rfl ?_
  refine v_getf 0 (ci := 10) (C := RX12) (T := TX12) (N := 13) rfl iwX12_polygon_X12 (Nat.le_of_ble_eq_true rfl) (by decide +kernel) dX12_polygon_1 (by repeat (first | (with_reducible refine sv_us.trans ?_; exact rfl) | with_reducible assumption | with_reducible refine (sv_un (by omega)).trans ?_)) rfl ?_
  refine v_iload_n dX12_polygon_4 rfl 1 rfl ?_
  refine v_callV (M' := mX3_hasCell) (n := 1) (As := [_]) (ci := 1) (r := (RX3, TX3, 10)) gX12_polygon_X3_hasCell rfl (by decide +kernel) ⟨(Nat.le_of_ble_eq_true rfl), (Nat.le_of_ble_eq_true rfl)⟩ rfl rfl dX12_polygon_5 rfl ⟨(Nat.le_of_ble_eq_true rfl), (Nat.le_of_ble_eq_true rfl)⟩ (Nat.le_of_ble_eq_true rfl) (by repeat (first | (with_reducible refine sv_us.trans ?_; exact rfl) | with_reducible assumption | with_reducible refine (sv_un (by omega)).trans ?_)) rfl (c_hasCell G _ _ _ _ _ _ _ _ _ _ _ _ _ _ hly) (fun v h1 z1 hq => ?_)
  rw [if_pos hg] at hq
  obtain ⟨rfl, rfl, rfl⟩ := hq
  refine v_if_eq (tgt := 26) dX12_polygon_8 (by decide) (fun c_8 => ?_) (fun c_8 => ?_)
  · exact absurd c_8 (by decide)
  · refine v_iload_n dX12_polygon_11 rfl 2 rfl ?_
    refine v_if_lt (tgt := 26) dX12_polygon_12 (by decide) (fun c_12 => ?_) (fun c_12 => ?_)
    · exact v_throw (ik := 121) (is := 123) (ic := 125) (cls := "java/lang/IndexOutOfBoundsException") (text := "no such cell or layer") (names := ["java/lang/RuntimeException", "java/lang/Exception"]) hl0 rfl (by decide +kernel) (by decide +kernel) (by decide +kernel) (by decide +kernel) (by decide +kernel) (by decide +kernel) (by decide +kernel) sv_bwO (by decide +kernel) dX12_polygon_26 dX12_polygon_29 dX12_polygon_30 dX12_polygon_32 dX12_polygon_35 rfl (Nat.le_of_ble_eq_true rfl) (Nat.le_of_ble_eq_true rfl) (Nat.le_of_ble_eq_true rfl) (Nat.le_of_ble_eq_true rfl) (fun z9 hz9 => ⟨rfl, rfl⟩)
    · refine v_iload_n dX12_polygon_15 rfl 2 rfl ?_
      refine v_aload_n dX12_polygon_16 rfl 0 rfl ?_
      refine v_getf 0 (ci := 10) (C := RX12) (T := TX12) (N := 13) rfl iwX12_polygon_X12 (Nat.le_of_ble_eq_true rfl) (by decide +kernel) dX12_polygon_17 (by repeat (first | (with_reducible refine sv_us.trans ?_; exact rfl) | with_reducible assumption | with_reducible refine (sv_un (by omega)).trans ?_)) rfl ?_
      refine v_getf 0 (ci := 1) (C := RX3) (T := TX3) (N := 10) rfl iwX12_polygon_X3 (Nat.le_of_ble_eq_true rfl) (by decide +kernel) dX12_polygon_20 (by repeat (first | (with_reducible refine sv_us.trans ?_; exact rfl) | with_reducible assumption | with_reducible refine (sv_un (by omega)).trans ?_)) rfl ?_
      refine v_icmp_lt (tgt := 36) dX12_polygon_23 (by decide) (fun c_23 => ?_) (fun c_23 => ?_)
      · exact absurd ⟨(by simp only [Int32.lt_iff_toInt_lt, Int32.le_iff_toInt_le, sv_i0, sv_i1, sv_i2, sv_i3, sv_i4, sv_i5, sv_i6, sv_i7, sv_i8, sv_i9, sv_i10, sv_i16, sv_i17, sv_i20, sv_i32, sv_i40, sv_i64, sv_i100, sv_i126, sv_i255, sv_i600, sv_i1500, sv_i65536, sv_im1] at *; omega), c_23⟩ hl
      · exact v_throw (ik := 121) (is := 123) (ic := 125) (cls := "java/lang/IndexOutOfBoundsException") (text := "no such cell or layer") (names := ["java/lang/RuntimeException", "java/lang/Exception"]) hl0 rfl (by decide +kernel) (by decide +kernel) (by decide +kernel) (by decide +kernel) (by decide +kernel) (by decide +kernel) (by decide +kernel) sv_bwO (by decide +kernel) dX12_polygon_26 dX12_polygon_29 dX12_polygon_30 dX12_polygon_32 dX12_polygon_35 rfl (Nat.le_of_ble_eq_true rfl) (Nat.le_of_ble_eq_true rfl) (Nat.le_of_ble_eq_true rfl) (Nat.le_of_ble_eq_true rfl) (fun z9 hz9 => ⟨rfl, rfl⟩)

set_option maxHeartbeats 4000000 in
set_option maxRecDepth 100000 in
theorem c_polygon_f (G : sv_G) (hl0 : G.1.stackTraces = false) (h : sv_h) (z b : Nat) (c l : Int32) (ly tp rd ck wv ru la fo fl lo : Nat) (rc lr lf : Int32) (hb : h b = some (.inr (10, [.ref ly, .ref tp, .ref rd, .ref ck, .ref wv, .ref ru, .int rc, .int lr, .int lf, .ref la, .ref fo, .ref fl, .ref lo]))) (po hd hs mo he nh : Nat) (k cs pn pl : Int32) (hly : h ly = some (.inr (1, [.int k, .int cs, .ref po, .int pn, .ref hd, .ref hs, .ref mo, .int pl, .ref he, .ref nh]))) (hg : 0 ≤ c ∧ c < cs) (hl : 0 ≤ l ∧ l < k) (hn : ¬ pn < 64) : CX G mX12_polygon [.ref b, .int c, .int l] h z (fun _ _ _ => False) (fun E h1 z1 => E = "java/lang/IllegalStateException" ∧ h1 = h) := by
  refine CX.of (by decide +kernel) rfl rfl (Nat.le_of_ble_eq_true rfl) ?_
  refine v_aload_n dX12_polygon_0 rfl 0 rfl ?_
  refine v_getf 0 (ci := 10) (C := RX12) (T := TX12) (N := 13) rfl iwX12_polygon_X12 (Nat.le_of_ble_eq_true rfl) (by decide +kernel) dX12_polygon_1 (by repeat (first | (with_reducible refine sv_us.trans ?_; exact rfl) | with_reducible assumption | with_reducible refine (sv_un (by omega)).trans ?_)) rfl ?_
  refine v_iload_n dX12_polygon_4 rfl 1 rfl ?_
  refine v_callV (M' := mX3_hasCell) (n := 1) (As := [_]) (ci := 1) (r := (RX3, TX3, 10)) gX12_polygon_X3_hasCell rfl (by decide +kernel) ⟨(Nat.le_of_ble_eq_true rfl), (Nat.le_of_ble_eq_true rfl)⟩ rfl rfl dX12_polygon_5 rfl ⟨(Nat.le_of_ble_eq_true rfl), (Nat.le_of_ble_eq_true rfl)⟩ (Nat.le_of_ble_eq_true rfl) (by repeat (first | (with_reducible refine sv_us.trans ?_; exact rfl) | with_reducible assumption | with_reducible refine (sv_un (by omega)).trans ?_)) rfl (c_hasCell G _ _ _ _ _ _ _ _ _ _ _ _ _ _ hly) (fun v h1 z1 hq => ?_)
  rw [if_pos hg] at hq
  obtain ⟨rfl, rfl, rfl⟩ := hq
  refine v_if_eq (tgt := 26) dX12_polygon_8 (by decide) (fun c_8 => ?_) (fun c_8 => ?_)
  · exact absurd c_8 (by decide)
  · refine v_iload_n dX12_polygon_11 rfl 2 rfl ?_
    refine v_if_lt (tgt := 26) dX12_polygon_12 (by decide) (fun c_12 => ?_) (fun c_12 => ?_)
    · exact absurd hl.1 (by simp only [Int32.lt_iff_toInt_lt, Int32.le_iff_toInt_le, sv_i0, sv_i1, sv_i2, sv_i3, sv_i4, sv_i5, sv_i6, sv_i7, sv_i8, sv_i9, sv_i10, sv_i16, sv_i17, sv_i20, sv_i32, sv_i40, sv_i64, sv_i100, sv_i126, sv_i255, sv_i600, sv_i1500, sv_i65536, sv_im1] at *; omega)
    · refine v_iload_n dX12_polygon_15 rfl 2 rfl ?_
      refine v_aload_n dX12_polygon_16 rfl 0 rfl ?_
      refine v_getf 0 (ci := 10) (C := RX12) (T := TX12) (N := 13) rfl iwX12_polygon_X12 (Nat.le_of_ble_eq_true rfl) (by decide +kernel) dX12_polygon_17 (by repeat (first | (with_reducible refine sv_us.trans ?_; exact rfl) | with_reducible assumption | with_reducible refine (sv_un (by omega)).trans ?_)) rfl ?_
      refine v_getf 0 (ci := 1) (C := RX3) (T := TX3) (N := 10) rfl iwX12_polygon_X3 (Nat.le_of_ble_eq_true rfl) (by decide +kernel) dX12_polygon_20 (by repeat (first | (with_reducible refine sv_us.trans ?_; exact rfl) | with_reducible assumption | with_reducible refine (sv_un (by omega)).trans ?_)) rfl ?_
      refine v_icmp_lt (tgt := 36) dX12_polygon_23 (by decide) (fun c_23 => ?_) (fun c_23 => ?_)
      · refine v_aload_n dX12_polygon_36 rfl 0 rfl ?_
        refine v_getf 0 (ci := 10) (C := RX12) (T := TX12) (N := 13) rfl iwX12_polygon_X12 (Nat.le_of_ble_eq_true rfl) (by decide +kernel) dX12_polygon_37 (by repeat (first | (with_reducible refine sv_us.trans ?_; exact rfl) | with_reducible assumption | with_reducible refine (sv_un (by omega)).trans ?_)) rfl ?_
        refine v_getf 3 (ci := 1) (C := RX3) (T := TX3) (N := 10) rfl iwX12_polygon_X3 (Nat.le_of_ble_eq_true rfl) (by decide +kernel) dX12_polygon_40 (by repeat (first | (with_reducible refine sv_us.trans ?_; exact rfl) | with_reducible assumption | with_reducible refine (sv_un (by omega)).trans ?_)) rfl ?_
        refine v_bipush (v := 64) dX12_polygon_43 (by decide) ?_
        refine v_icmp_lt (tgt := 58) dX12_polygon_45 (by decide) (fun c_45 => ?_) (fun c_45 => ?_)
        · exact absurd c_45 hn
        · exact v_throw (ik := 108) (is := 129) (ic := 112) (cls := "java/lang/IllegalStateException") (text := "no more polygons") (names := ["java/lang/RuntimeException", "java/lang/Exception"]) hl0 rfl (by decide +kernel) (by decide +kernel) (by decide +kernel) (by decide +kernel) (by decide +kernel) (by decide +kernel) (by decide +kernel) sv_bwI (by decide +kernel) dX12_polygon_48 dX12_polygon_51 dX12_polygon_52 dX12_polygon_54 dX12_polygon_57 rfl (Nat.le_of_ble_eq_true rfl) (Nat.le_of_ble_eq_true rfl) (Nat.le_of_ble_eq_true rfl) (Nat.le_of_ble_eq_true rfl) (fun z9 hz9 => ⟨rfl, rfl⟩)
      · exact absurd hl.2 c_23

set_option maxHeartbeats 4000000 in
set_option maxRecDepth 100000 in
theorem m_polygon (G : sv_G) (h : sv_h) (z b : Nat) (fs : List Value) (k : Int32) (nc np pl tn nr nl : Nat) (lq lf : Int32) (nw : Nat) (gfs : ab_fs b k nc np pl tn nr nl lq lf nw fs) (hm : h (b + 220) = some (.inr (11, fs))) (c l : Int32) (g1 : Nat → Int32) (g2 : Nat → Int32) (g3 : Nat → Int64) (g4 : Nat → Int32) (hg1 : h (b + 221) = some (.inl (G.2.2.1 0, 64, .inl g1))) (hg2 : h (b + 222) = some (.inl (G.2.2.1 0, 64, .inl g2))) (hg3 : h (b + 223) = some (.inl (G.2.2.1 1, 64, .inr (.inl g3)))) (hg4 : h (b + 224) = some (.inl (G.2.2.1 0, 64, .inl g4))) (hg : 0 ≤ c ∧ c < nI nc) (hl : 0 ≤ l ∧ l < k) (hn : np < 64) : CT G mX13_polygon [.ref (b + 220), .int c, .int l] h z (fun v h1 z1 => v = some (.int (nI np + 1 - 1)) ∧ z1 = z ∧ h1 (b + 220) = some (.inr (11, (fs.set 0 (.int 0)).set 3 (.int (nI np + 1)))) ∧ h1 (b + 221) = some (.inl (G.2.2.1 0, 64, .inl (upd g1 np c))) ∧ h1 (b + 222) = some (.inl (G.2.2.1 0, 64, .inl (upd g2 np l))) ∧ h1 (b + 223) = some (.inl (G.2.2.1 1, 64, .inr (.inl (vp_updL g3 np 0)))) ∧ h1 (b + 224) = some (.inl (G.2.2.1 0, 64, .inl (upd g4 np 0))) ∧ ∀ a, a ≠ b + 220 → a ≠ b + 221 → a ≠ b + 222 → a ≠ b + 223 → a ≠ b + 224 → h1 a = h a) := by
  refine CT.of (by decide +kernel) rfl rfl (Nat.le_of_ble_eq_true rfl) ?_
  have hlen := gfs.1
  have f_cells := gfs.f_cells
  have f_polygons := gfs.f_polygons
  have f_layers := gfs.f_layers
  have f_owner := gfs.f_owner
  have f_layer := gfs.f_layer
  have f_volts := gfs.f_volts
  have f_size := gfs.f_size
  refine v_aload_n dX13_polygon_0 rfl 0 rfl ?_
  refine v_aload_n dX13_polygon_1 rfl 0 rfl ?_
  refine v_iload_n dX13_polygon_2 rfl 1 rfl ?_
  refine v_callV (M' := mX13_isCell) (n := 1) (As := [_]) (ci := 11) (r := (RX13, TX13, 71)) gX13_polygon_X13_isCell rfl (by decide +kernel) ⟨(Nat.le_of_ble_eq_true rfl), (Nat.le_of_ble_eq_true rfl)⟩ rfl rfl dX13_polygon_3 rfl ⟨(Nat.le_of_ble_eq_true rfl), (Nat.le_of_ble_eq_true rfl)⟩ (Nat.le_of_ble_eq_true rfl) (by repeat (first | (with_reducible refine sv_us.trans ?_; exact rfl) | with_reducible assumption | with_reducible refine (sv_un (by omega)).trans ?_)) rfl (m_isCell G _ _ _ _ hlen hm _ _ f_cells) (fun v h1 z1 hq => ?_)
  rw [if_pos hg] at hq
  obtain ⟨rfl, rfl, rfl⟩ := hq
  refine v_if_eq (tgt := 21) dX13_polygon_6 (by decide) (fun c_6 => ?_) (fun c_6 => ?_)
  · exact absurd c_6 (by decide)
  · refine v_iload_n dX13_polygon_9 rfl 2 rfl ?_
    refine v_if_lt (tgt := 21) dX13_polygon_10 (by decide) (fun c_10 => ?_) (fun c_10 => ?_)
    · exact absurd hl.1 (by simp only [Int32.lt_iff_toInt_lt, Int32.le_iff_toInt_le, sv_i0, sv_i1, sv_i2, sv_i3, sv_i4, sv_i5, sv_i6, sv_i7, sv_i8, sv_i9, sv_i10, sv_i16, sv_i17, sv_i20, sv_i32, sv_i40, sv_i64, sv_i100, sv_i126, sv_i255, sv_i600, sv_i1500, sv_i65536, sv_im1] at *; omega)
    · refine v_iload_n dX13_polygon_13 rfl 2 rfl ?_
      refine v_aload_n dX13_polygon_14 rfl 0 rfl ?_
      refine v_getf 1 (ci := 11) (C := RX13) (T := TX13) (N := 71) rfl iwX13_polygon_X13 (Nat.le_of_ble_eq_true rfl) (by decide +kernel) dX13_polygon_15 (by repeat (first | (with_reducible refine sv_us.trans ?_; exact rfl) | with_reducible assumption | with_reducible refine (sv_un (by omega)).trans ?_)) (by repeat (first | with_reducible assumption | (with_reducible refine (sv_ls (by first | omega | (simp only [List.length_set]; omega))).trans ?_; exact rfl) | with_reducible refine (List.getElem?_set_ne (by decide)).trans ?_)) ?_
      refine v_icmp_lt (tgt := 25) dX13_polygon_18 (by decide) (fun c_18 => ?_) (fun c_18 => ?_)
      · refine v_aload_n dX13_polygon_25 rfl 0 rfl ?_
        refine v_getf 3 (ci := 11) (C := RX13) (T := TX13) (N := 71) rfl iwX13_polygon_X13 (Nat.le_of_ble_eq_true rfl) (by decide +kernel) dX13_polygon_26 (by repeat (first | (with_reducible refine sv_us.trans ?_; exact rfl) | with_reducible assumption | with_reducible refine (sv_un (by omega)).trans ?_)) (by repeat (first | with_reducible assumption | (with_reducible refine (sv_ls (by first | omega | (simp only [List.length_set]; omega))).trans ?_; exact rfl) | with_reducible refine (List.getElem?_set_ne (by decide)).trans ?_)) ?_
        refine v_bipush (v := 64) dX13_polygon_29 (by decide) ?_
        refine v_icmp_ne (tgt := 38) dX13_polygon_31 (by decide) (fun c_31 => ?_) (fun c_31 => ?_)
        · refine v_iconst (v := 0) dX13_polygon_38 (by decide) ?_
          refine v_putf 0 (fs' := _) (ci := 11) (C := RX13) (T := TX13) (N := 71) (ty := .int) rfl iwX13_polygon_X13 tyX13 tyX13_ok nmX13 (Nat.le_of_ble_eq_true rfl) (by decide +kernel) rfl rfl dX13_polygon_39 rfl rfl (by repeat (first | (with_reducible refine sv_us.trans ?_; exact rfl) | with_reducible assumption | with_reducible refine (sv_un (by omega)).trans ?_)) (by first | omega | (simp only [List.length_set]; omega)) rfl ?_
          refine v_aload_n dX13_polygon_42 rfl 0 rfl ?_
          refine v_getf 0 (ci := 11) (C := RX13) (T := TX13) (N := 71) rfl iwX13_polygon_X13 (Nat.le_of_ble_eq_true rfl) (by decide +kernel) dX13_polygon_43 (by repeat (first | (with_reducible refine sv_us.trans ?_; exact rfl) | with_reducible assumption | with_reducible refine (sv_un (by omega)).trans ?_)) (by repeat (first | with_reducible assumption | (with_reducible refine (sv_ls (by first | omega | (simp only [List.length_set]; omega))).trans ?_; exact rfl) | with_reducible refine (List.getElem?_set_ne (by decide)).trans ?_)) ?_
          refine v_if_le (tgt := 51) dX13_polygon_46 (by decide) (fun c_46 => ?_) (fun c_46 => ?_)
          · refine v_aload_n dX13_polygon_51 rfl 0 rfl ?_
            refine v_getf 4 (ci := 11) (C := RX13) (T := TX13) (N := 71) rfl iwX13_polygon_X13 (Nat.le_of_ble_eq_true rfl) (by decide +kernel) dX13_polygon_52 (by repeat (first | (with_reducible refine sv_us.trans ?_; exact rfl) | with_reducible assumption | with_reducible refine (sv_un (by omega)).trans ?_)) (by repeat (first | with_reducible assumption | (with_reducible refine (sv_ls (by first | omega | (simp only [List.length_set]; omega))).trans ?_; exact rfl) | with_reducible refine (List.getElem?_set_ne (by decide)).trans ?_)) ?_
            refine v_aload_n dX13_polygon_55 rfl 0 rfl ?_
            refine v_getf 3 (ci := 11) (C := RX13) (T := TX13) (N := 71) rfl iwX13_polygon_X13 (Nat.le_of_ble_eq_true rfl) (by decide +kernel) dX13_polygon_56 (by repeat (first | (with_reducible refine sv_us.trans ?_; exact rfl) | with_reducible assumption | with_reducible refine (sv_un (by omega)).trans ?_)) (by repeat (first | with_reducible assumption | (with_reducible refine (sv_ls (by first | omega | (simp only [List.length_set]; omega))).trans ?_; exact rfl) | with_reducible refine (List.getElem?_set_ne (by decide)).trans ?_)) ?_
            refine v_iload_n dX13_polygon_59 rfl 1 rfl ?_
            refine v_iast dX13_polygon_60 (by repeat (first | (with_reducible refine sv_us.trans ?_; exact rfl) | with_reducible assumption | with_reducible refine (sv_un (by omega)).trans ?_)) (vp_in_nI hn (by omega)) ?_
            refine v_aload_n dX13_polygon_61 rfl 0 rfl ?_
            refine v_getf 5 (ci := 11) (C := RX13) (T := TX13) (N := 71) rfl iwX13_polygon_X13 (Nat.le_of_ble_eq_true rfl) (by decide +kernel) dX13_polygon_62 (by repeat (first | (with_reducible refine sv_us.trans ?_; exact rfl) | with_reducible assumption | with_reducible refine (sv_un (by omega)).trans ?_)) (by repeat (first | with_reducible assumption | (with_reducible refine (sv_ls (by first | omega | (simp only [List.length_set]; omega))).trans ?_; exact rfl) | with_reducible refine (List.getElem?_set_ne (by decide)).trans ?_)) ?_
            refine v_aload_n dX13_polygon_65 rfl 0 rfl ?_
            refine v_getf 3 (ci := 11) (C := RX13) (T := TX13) (N := 71) rfl iwX13_polygon_X13 (Nat.le_of_ble_eq_true rfl) (by decide +kernel) dX13_polygon_66 (by repeat (first | (with_reducible refine sv_us.trans ?_; exact rfl) | with_reducible assumption | with_reducible refine (sv_un (by omega)).trans ?_)) (by repeat (first | with_reducible assumption | (with_reducible refine (sv_ls (by first | omega | (simp only [List.length_set]; omega))).trans ?_; exact rfl) | with_reducible refine (List.getElem?_set_ne (by decide)).trans ?_)) ?_
            refine v_iload_n dX13_polygon_69 rfl 2 rfl ?_
            refine v_iast dX13_polygon_70 (by repeat (first | (with_reducible refine sv_us.trans ?_; exact rfl) | with_reducible assumption | with_reducible refine (sv_un (by omega)).trans ?_)) (vp_in_nI hn (by omega)) ?_
            refine v_aload_n dX13_polygon_71 rfl 0 rfl ?_
            refine v_getf 6 (ci := 11) (C := RX13) (T := TX13) (N := 71) rfl iwX13_polygon_X13 (Nat.le_of_ble_eq_true rfl) (by decide +kernel) dX13_polygon_72 (by repeat (first | (with_reducible refine sv_us.trans ?_; exact rfl) | with_reducible assumption | with_reducible refine (sv_un (by omega)).trans ?_)) (by repeat (first | with_reducible assumption | (with_reducible refine (sv_ls (by first | omega | (simp only [List.length_set]; omega))).trans ?_; exact rfl) | with_reducible refine (List.getElem?_set_ne (by decide)).trans ?_)) ?_
            refine v_aload_n dX13_polygon_75 rfl 0 rfl ?_
            refine v_getf 3 (ci := 11) (C := RX13) (T := TX13) (N := 71) rfl iwX13_polygon_X13 (Nat.le_of_ble_eq_true rfl) (by decide +kernel) dX13_polygon_76 (by repeat (first | (with_reducible refine sv_us.trans ?_; exact rfl) | with_reducible assumption | with_reducible refine (sv_un (by omega)).trans ?_)) (by repeat (first | with_reducible assumption | (with_reducible refine (sv_ls (by first | omega | (simp only [List.length_set]; omega))).trans ?_; exact rfl) | with_reducible refine (List.getElem?_set_ne (by decide)).trans ?_)) ?_
            refine v_lconst (v := 0) dX13_polygon_79 (by decide) ?_
            refine v_last dX13_polygon_80 (by repeat (first | (with_reducible refine sv_us.trans ?_; exact rfl) | with_reducible assumption | with_reducible refine (sv_un (by omega)).trans ?_)) (vp_in_nI hn (by omega)) ?_
            refine v_aload_n dX13_polygon_81 rfl 0 rfl ?_
            refine v_getf 7 (ci := 11) (C := RX13) (T := TX13) (N := 71) rfl iwX13_polygon_X13 (Nat.le_of_ble_eq_true rfl) (by decide +kernel) dX13_polygon_82 (by repeat (first | (with_reducible refine sv_us.trans ?_; exact rfl) | with_reducible assumption | with_reducible refine (sv_un (by omega)).trans ?_)) (by repeat (first | with_reducible assumption | (with_reducible refine (sv_ls (by first | omega | (simp only [List.length_set]; omega))).trans ?_; exact rfl) | with_reducible refine (List.getElem?_set_ne (by decide)).trans ?_)) ?_
            refine v_aload_n dX13_polygon_85 rfl 0 rfl ?_
            refine v_getf 3 (ci := 11) (C := RX13) (T := TX13) (N := 71) rfl iwX13_polygon_X13 (Nat.le_of_ble_eq_true rfl) (by decide +kernel) dX13_polygon_86 (by repeat (first | (with_reducible refine sv_us.trans ?_; exact rfl) | with_reducible assumption | with_reducible refine (sv_un (by omega)).trans ?_)) (by repeat (first | with_reducible assumption | (with_reducible refine (sv_ls (by first | omega | (simp only [List.length_set]; omega))).trans ?_; exact rfl) | with_reducible refine (List.getElem?_set_ne (by decide)).trans ?_)) ?_
            refine v_iconst (v := 0) dX13_polygon_89 (by decide) ?_
            refine v_iast dX13_polygon_90 (by repeat (first | (with_reducible refine sv_us.trans ?_; exact rfl) | with_reducible assumption | with_reducible refine (sv_un (by omega)).trans ?_)) (vp_in_nI hn (by omega)) ?_
            refine v_aload_n dX13_polygon_91 rfl 0 rfl ?_
            refine v_dup dX13_polygon_92 rfl ?_
            refine v_getf 3 (ci := 11) (C := RX13) (T := TX13) (N := 71) rfl iwX13_polygon_X13 (Nat.le_of_ble_eq_true rfl) (by decide +kernel) dX13_polygon_93 (by repeat (first | (with_reducible refine sv_us.trans ?_; exact rfl) | with_reducible assumption | with_reducible refine (sv_un (by omega)).trans ?_)) (by repeat (first | with_reducible assumption | (with_reducible refine (sv_ls (by first | omega | (simp only [List.length_set]; omega))).trans ?_; exact rfl) | with_reducible refine (List.getElem?_set_ne (by decide)).trans ?_)) ?_
            refine v_iconst (v := 1) dX13_polygon_96 (by decide) ?_
            refine v_iadd dX13_polygon_97 ?_
            refine v_putf 3 (fs' := _) (ci := 11) (C := RX13) (T := TX13) (N := 71) (ty := .int) rfl iwX13_polygon_X13 tyX13 tyX13_ok nmX13 (Nat.le_of_ble_eq_true rfl) (by decide +kernel) rfl rfl dX13_polygon_98 rfl rfl (by repeat (first | (with_reducible refine sv_us.trans ?_; exact rfl) | with_reducible assumption | with_reducible refine (sv_un (by omega)).trans ?_)) (by first | omega | (simp only [List.length_set]; omega)) rfl ?_
            refine v_aload_n dX13_polygon_101 rfl 0 rfl ?_
            refine v_getf 3 (ci := 11) (C := RX13) (T := TX13) (N := 71) rfl iwX13_polygon_X13 (Nat.le_of_ble_eq_true rfl) (by decide +kernel) dX13_polygon_102 (by repeat (first | (with_reducible refine sv_us.trans ?_; exact rfl) | with_reducible assumption | with_reducible refine (sv_un (by omega)).trans ?_)) (by repeat (first | with_reducible assumption | (with_reducible refine (sv_ls (by first | omega | (simp only [List.length_set]; omega))).trans ?_; exact rfl) | with_reducible refine (List.getElem?_set_ne (by decide)).trans ?_)) ?_
            refine v_iconst (v := 1) dX13_polygon_105 (by decide) ?_
            refine v_isub dX13_polygon_106 ?_
            exact v_iret rfl dX13_polygon_107 (Nat.le_of_ble_eq_true rfl) (Nat.le_of_ble_eq_true rfl) rfl (by
    have ecl : (nI np).toNatClampNeg = np := nI_clamp (by omega)
    rw [ecl]
    exact ⟨rfl, rfl, (by repeat (first | (with_reducible refine sv_us.trans ?_; exact rfl) | with_reducible assumption | with_reducible refine (sv_un (by first | omega | assumption)).trans ?_)), (by repeat (first | (with_reducible refine sv_us.trans ?_; exact rfl) | with_reducible assumption | with_reducible refine (sv_un (by first | omega | assumption)).trans ?_)), (by repeat (first | (with_reducible refine sv_us.trans ?_; exact rfl) | with_reducible assumption | with_reducible refine (sv_un (by first | omega | assumption)).trans ?_)), (by repeat (first | (with_reducible refine sv_us.trans ?_; exact rfl) | with_reducible assumption | with_reducible refine (sv_un (by first | omega | assumption)).trans ?_)), (by repeat (first | (with_reducible refine sv_us.trans ?_; exact rfl) | with_reducible assumption | with_reducible refine (sv_un (by first | omega | assumption)).trans ?_)), (fun a q0 q1 q2 q3 q4 => by repeat (first | with_reducible rfl | with_reducible refine (sv_un (by omega)).trans ?_))⟩)
          · exact absurd (by decide) c_46
        · exact absurd ((nI_eq (b := 64) (by omega) (by omega)).mp c_31) (by omega)
      · exact absurd hl.2 c_18

set_option maxHeartbeats 4000000 in
set_option maxRecDepth 100000 in
theorem m_polygon_l (G : sv_G) (h : sv_h) (z b : Nat) (fs : List Value) (k : Int32) (nc np pl tn nr nl : Nat) (lq lf : Int32) (nw : Nat) (gfs : ab_fs b k nc np pl tn nr nl lq lf nw fs) (hm : h (b + 220) = some (.inr (11, fs))) (c l : Int32) (hg : 0 ≤ c ∧ c < nI nc) (hl : ¬ (0 ≤ l ∧ l < k)) : CT G mX13_polygon [.ref (b + 220), .int c, .int l] h z (fun v h1 z1 => v = some (.int 0) ∧ h1 = va_up h (b + 220) (some (.inr (11, fs.set 0 (.int 1)))) ∧ z1 = z) := by
  refine CT.of (by decide +kernel) rfl rfl (Nat.le_of_ble_eq_true rfl) ?_
  have hlen := gfs.1
  have f_cells := gfs.f_cells
  have f_polygons := gfs.f_polygons
  have f_layers := gfs.f_layers
  refine v_aload_n dX13_polygon_0 rfl 0 rfl ?_
  refine v_aload_n dX13_polygon_1 rfl 0 rfl ?_
  refine v_iload_n dX13_polygon_2 rfl 1 rfl ?_
  refine v_callV (M' := mX13_isCell) (n := 1) (As := [_]) (ci := 11) (r := (RX13, TX13, 71)) gX13_polygon_X13_isCell rfl (by decide +kernel) ⟨(Nat.le_of_ble_eq_true rfl), (Nat.le_of_ble_eq_true rfl)⟩ rfl rfl dX13_polygon_3 rfl ⟨(Nat.le_of_ble_eq_true rfl), (Nat.le_of_ble_eq_true rfl)⟩ (Nat.le_of_ble_eq_true rfl) (by repeat (first | (with_reducible refine sv_us.trans ?_; exact rfl) | with_reducible assumption | with_reducible refine (sv_un (by omega)).trans ?_)) rfl (m_isCell G _ _ _ _ hlen hm _ _ f_cells) (fun v h1 z1 hq => ?_)
  rw [if_pos hg] at hq
  obtain ⟨rfl, rfl, rfl⟩ := hq
  refine v_if_eq (tgt := 21) dX13_polygon_6 (by decide) (fun c_6 => ?_) (fun c_6 => ?_)
  · exact absurd c_6 (by decide)
  · refine v_iload_n dX13_polygon_9 rfl 2 rfl ?_
    refine v_if_lt (tgt := 21) dX13_polygon_10 (by decide) (fun c_10 => ?_) (fun c_10 => ?_)
    · refine v_iconst (v := 1) dX13_polygon_21 (by decide) ?_
      refine v_goto (tgt := 39) dX13_polygon_22 (by decide) ?_
      refine v_putf 0 (fs' := _) (ci := 11) (C := RX13) (T := TX13) (N := 71) (ty := .int) rfl iwX13_polygon_X13 tyX13 tyX13_ok nmX13 (Nat.le_of_ble_eq_true rfl) (by decide +kernel) rfl rfl dX13_polygon_39 rfl rfl (by repeat (first | (with_reducible refine sv_us.trans ?_; exact rfl) | with_reducible assumption | with_reducible refine (sv_un (by omega)).trans ?_)) (by first | omega | (simp only [List.length_set]; omega)) rfl ?_
      refine v_aload_n dX13_polygon_42 rfl 0 rfl ?_
      refine v_getf 0 (ci := 11) (C := RX13) (T := TX13) (N := 71) rfl iwX13_polygon_X13 (Nat.le_of_ble_eq_true rfl) (by decide +kernel) dX13_polygon_43 (by repeat (first | (with_reducible refine sv_us.trans ?_; exact rfl) | with_reducible assumption | with_reducible refine (sv_un (by omega)).trans ?_)) (by repeat (first | with_reducible assumption | (with_reducible refine (sv_ls (by first | omega | (simp only [List.length_set]; omega))).trans ?_; exact rfl) | with_reducible refine (List.getElem?_set_ne (by decide)).trans ?_)) ?_
      refine v_if_le (tgt := 51) dX13_polygon_46 (by decide) (fun c_46 => ?_) (fun c_46 => ?_)
      · exact absurd c_46 (by decide)
      · refine v_iconst (v := 0) dX13_polygon_49 (by decide) ?_
        exact v_iret rfl dX13_polygon_50 (Nat.le_of_ble_eq_true rfl) (Nat.le_of_ble_eq_true rfl) rfl ⟨rfl, rfl, rfl⟩
    · refine v_iload_n dX13_polygon_13 rfl 2 rfl ?_
      refine v_aload_n dX13_polygon_14 rfl 0 rfl ?_
      refine v_getf 1 (ci := 11) (C := RX13) (T := TX13) (N := 71) rfl iwX13_polygon_X13 (Nat.le_of_ble_eq_true rfl) (by decide +kernel) dX13_polygon_15 (by repeat (first | (with_reducible refine sv_us.trans ?_; exact rfl) | with_reducible assumption | with_reducible refine (sv_un (by omega)).trans ?_)) (by repeat (first | with_reducible assumption | (with_reducible refine (sv_ls (by first | omega | (simp only [List.length_set]; omega))).trans ?_; exact rfl) | with_reducible refine (List.getElem?_set_ne (by decide)).trans ?_)) ?_
      refine v_icmp_lt (tgt := 25) dX13_polygon_18 (by decide) (fun c_18 => ?_) (fun c_18 => ?_)
      · exact absurd ⟨(by simp only [Int32.lt_iff_toInt_lt, Int32.le_iff_toInt_le, sv_i0, sv_i1, sv_i2, sv_i3, sv_i4, sv_i5, sv_i6, sv_i7, sv_i8, sv_i9, sv_i10, sv_i16, sv_i17, sv_i20, sv_i32, sv_i40, sv_i64, sv_i100, sv_i126, sv_i255, sv_i600, sv_i1500, sv_i65536, sv_im1] at *; omega), c_18⟩ hl
      · refine v_iconst (v := 1) dX13_polygon_21 (by decide) ?_
        refine v_goto (tgt := 39) dX13_polygon_22 (by decide) ?_
        refine v_putf 0 (fs' := _) (ci := 11) (C := RX13) (T := TX13) (N := 71) (ty := .int) rfl iwX13_polygon_X13 tyX13 tyX13_ok nmX13 (Nat.le_of_ble_eq_true rfl) (by decide +kernel) rfl rfl dX13_polygon_39 rfl rfl (by repeat (first | (with_reducible refine sv_us.trans ?_; exact rfl) | with_reducible assumption | with_reducible refine (sv_un (by omega)).trans ?_)) (by first | omega | (simp only [List.length_set]; omega)) rfl ?_
        refine v_aload_n dX13_polygon_42 rfl 0 rfl ?_
        refine v_getf 0 (ci := 11) (C := RX13) (T := TX13) (N := 71) rfl iwX13_polygon_X13 (Nat.le_of_ble_eq_true rfl) (by decide +kernel) dX13_polygon_43 (by repeat (first | (with_reducible refine sv_us.trans ?_; exact rfl) | with_reducible assumption | with_reducible refine (sv_un (by omega)).trans ?_)) (by repeat (first | with_reducible assumption | (with_reducible refine (sv_ls (by first | omega | (simp only [List.length_set]; omega))).trans ?_; exact rfl) | with_reducible refine (List.getElem?_set_ne (by decide)).trans ?_)) ?_
        refine v_if_le (tgt := 51) dX13_polygon_46 (by decide) (fun c_46 => ?_) (fun c_46 => ?_)
        · exact absurd c_46 (by decide)
        · refine v_iconst (v := 0) dX13_polygon_49 (by decide) ?_
          exact v_iret rfl dX13_polygon_50 (Nat.le_of_ble_eq_true rfl) (Nat.le_of_ble_eq_true rfl) rfl ⟨rfl, rfl, rfl⟩

set_option maxHeartbeats 4000000 in
set_option maxRecDepth 100000 in
theorem m_polygon_f (G : sv_G) (h : sv_h) (z b : Nat) (fs : List Value) (k : Int32) (nc np pl tn nr nl : Nat) (lq lf : Int32) (nw : Nat) (gfs : ab_fs b k nc np pl tn nr nl lq lf nw fs) (hm : h (b + 220) = some (.inr (11, fs))) (c l : Int32) (hg : 0 ≤ c ∧ c < nI nc) (hl : 0 ≤ l ∧ l < k) (hn : np = 64) : CT G mX13_polygon [.ref (b + 220), .int c, .int l] h z (fun v h1 z1 => v = some (.int 0) ∧ h1 = va_up h (b + 220) (some (.inr (11, fs.set 0 (.int 2)))) ∧ z1 = z) := by
  refine CT.of (by decide +kernel) rfl rfl (Nat.le_of_ble_eq_true rfl) ?_
  have hlen := gfs.1
  have f_cells := gfs.f_cells
  have f_polygons := gfs.f_polygons
  have f_layers := gfs.f_layers
  refine v_aload_n dX13_polygon_0 rfl 0 rfl ?_
  refine v_aload_n dX13_polygon_1 rfl 0 rfl ?_
  refine v_iload_n dX13_polygon_2 rfl 1 rfl ?_
  refine v_callV (M' := mX13_isCell) (n := 1) (As := [_]) (ci := 11) (r := (RX13, TX13, 71)) gX13_polygon_X13_isCell rfl (by decide +kernel) ⟨(Nat.le_of_ble_eq_true rfl), (Nat.le_of_ble_eq_true rfl)⟩ rfl rfl dX13_polygon_3 rfl ⟨(Nat.le_of_ble_eq_true rfl), (Nat.le_of_ble_eq_true rfl)⟩ (Nat.le_of_ble_eq_true rfl) (by repeat (first | (with_reducible refine sv_us.trans ?_; exact rfl) | with_reducible assumption | with_reducible refine (sv_un (by omega)).trans ?_)) rfl (m_isCell G _ _ _ _ hlen hm _ _ f_cells) (fun v h1 z1 hq => ?_)
  rw [if_pos hg] at hq
  obtain ⟨rfl, rfl, rfl⟩ := hq
  refine v_if_eq (tgt := 21) dX13_polygon_6 (by decide) (fun c_6 => ?_) (fun c_6 => ?_)
  · exact absurd c_6 (by decide)
  · refine v_iload_n dX13_polygon_9 rfl 2 rfl ?_
    refine v_if_lt (tgt := 21) dX13_polygon_10 (by decide) (fun c_10 => ?_) (fun c_10 => ?_)
    · exact absurd hl.1 (by simp only [Int32.lt_iff_toInt_lt, Int32.le_iff_toInt_le, sv_i0, sv_i1, sv_i2, sv_i3, sv_i4, sv_i5, sv_i6, sv_i7, sv_i8, sv_i9, sv_i10, sv_i16, sv_i17, sv_i20, sv_i32, sv_i40, sv_i64, sv_i100, sv_i126, sv_i255, sv_i600, sv_i1500, sv_i65536, sv_im1] at *; omega)
    · refine v_iload_n dX13_polygon_13 rfl 2 rfl ?_
      refine v_aload_n dX13_polygon_14 rfl 0 rfl ?_
      refine v_getf 1 (ci := 11) (C := RX13) (T := TX13) (N := 71) rfl iwX13_polygon_X13 (Nat.le_of_ble_eq_true rfl) (by decide +kernel) dX13_polygon_15 (by repeat (first | (with_reducible refine sv_us.trans ?_; exact rfl) | with_reducible assumption | with_reducible refine (sv_un (by omega)).trans ?_)) (by repeat (first | with_reducible assumption | (with_reducible refine (sv_ls (by first | omega | (simp only [List.length_set]; omega))).trans ?_; exact rfl) | with_reducible refine (List.getElem?_set_ne (by decide)).trans ?_)) ?_
      refine v_icmp_lt (tgt := 25) dX13_polygon_18 (by decide) (fun c_18 => ?_) (fun c_18 => ?_)
      · refine v_aload_n dX13_polygon_25 rfl 0 rfl ?_
        refine v_getf 3 (ci := 11) (C := RX13) (T := TX13) (N := 71) rfl iwX13_polygon_X13 (Nat.le_of_ble_eq_true rfl) (by decide +kernel) dX13_polygon_26 (by repeat (first | (with_reducible refine sv_us.trans ?_; exact rfl) | with_reducible assumption | with_reducible refine (sv_un (by omega)).trans ?_)) (by repeat (first | with_reducible assumption | (with_reducible refine (sv_ls (by first | omega | (simp only [List.length_set]; omega))).trans ?_; exact rfl) | with_reducible refine (List.getElem?_set_ne (by decide)).trans ?_)) ?_
        refine v_bipush (v := 64) dX13_polygon_29 (by decide) ?_
        refine v_icmp_ne (tgt := 38) dX13_polygon_31 (by decide) (fun c_31 => ?_) (fun c_31 => ?_)
        · exact absurd (by rw [hn]; rfl) c_31
        · refine v_iconst (v := 2) dX13_polygon_34 (by decide) ?_
          refine v_goto (tgt := 39) dX13_polygon_35 (by decide) ?_
          refine v_putf 0 (fs' := _) (ci := 11) (C := RX13) (T := TX13) (N := 71) (ty := .int) rfl iwX13_polygon_X13 tyX13 tyX13_ok nmX13 (Nat.le_of_ble_eq_true rfl) (by decide +kernel) rfl rfl dX13_polygon_39 rfl rfl (by repeat (first | (with_reducible refine sv_us.trans ?_; exact rfl) | with_reducible assumption | with_reducible refine (sv_un (by omega)).trans ?_)) (by first | omega | (simp only [List.length_set]; omega)) rfl ?_
          refine v_aload_n dX13_polygon_42 rfl 0 rfl ?_
          refine v_getf 0 (ci := 11) (C := RX13) (T := TX13) (N := 71) rfl iwX13_polygon_X13 (Nat.le_of_ble_eq_true rfl) (by decide +kernel) dX13_polygon_43 (by repeat (first | (with_reducible refine sv_us.trans ?_; exact rfl) | with_reducible assumption | with_reducible refine (sv_un (by omega)).trans ?_)) (by repeat (first | with_reducible assumption | (with_reducible refine (sv_ls (by first | omega | (simp only [List.length_set]; omega))).trans ?_; exact rfl) | with_reducible refine (List.getElem?_set_ne (by decide)).trans ?_)) ?_
          refine v_if_le (tgt := 51) dX13_polygon_46 (by decide) (fun c_46 => ?_) (fun c_46 => ?_)
          · exact absurd c_46 (by decide)
          · refine v_iconst (v := 0) dX13_polygon_49 (by decide) ?_
            exact v_iret rfl dX13_polygon_50 (Nat.le_of_ble_eq_true rfl) (Nat.le_of_ble_eq_true rfl) rfl ⟨rfl, rfl, rfl⟩
      · exact absurd hl.2 c_18

/-- the tables with one polygon more -/
def ab_tp (t : Nat → Nat → Int32) (np : Nat) (c l : Int32) : Nat → Nat → Int32 := fun c' i' => if i' = np then (if c' = 0 then c else if c' = 1 then l else if c' = 2 then 0 else t c' i') else t c' i'
theorem ab_tp_0 {t : Nat → Nat → Int32} {np : Nat} {c l : Int32} : ab_tp t np c l 0 np = c := by simp [ab_tp]
theorem ab_tp_1 {t : Nat → Nat → Int32} {np : Nat} {c l : Int32} : ab_tp t np c l 1 np = l := by simp [ab_tp]
theorem ab_tp_2 {t : Nat → Nat → Int32} {np : Nat} {c l : Int32} : ab_tp t np c l 2 np = 0 := by simp [ab_tp]
theorem ab_tp_i {t : Nat → Nat → Int32} {np c' i' : Nat} {c l : Int32} (h : i' ≠ np) : ab_tp t np c l c' i' = t c' i' := by simp [ab_tp, h]
theorem ab_tp_c {t : Nat → Nat → Int32} {np c' i' : Nat} {c l : Int32} (h : 3 ≤ c') : ab_tp t np c l c' i' = t c' i' := by
  unfold ab_tp
  by_cases q : i' = np
  · rw [if_pos q, if_neg (by omega), if_neg (by omega), if_neg (by omega)]
  · rw [if_neg q]
theorem ab_ok.poly {nc np pl : Nat} {sz : Nat → Nat} {t : Nat → Nat → Int32} {u : Nat → Nat → Nat → Int32} (H : ab_ok nc np pl sz t u) (hn : np < 64) {c : Nat} (hc : c < nc) (l : Int32) : ab_ok nc (np + 1) pl (va_up sz np 0) (ab_tp t np (nI c) l) u := by
  obtain ⟨a1, a2, a3, a4, a5, a6⟩ := H
  refine ⟨a1, by omega, a3, fun p hp => ?_, fun i hi => ?_, ?_⟩
  · by_cases q : p = np
    · subst q
      rw [sv_us, ab_tp_0, ab_tp_2]
      exact ⟨by omega, ⟨c, hc, rfl⟩, by decide, by decide, fun i hi => absurd hi (by omega), fun i hi => absurd hi (by omega)⟩
    · rw [sv_un q, ab_tp_i q, ab_tp_i q]
      exact a4 p (by omega)
  · rw [ab_tp_c (by decide), ab_tp_c (by decide), ab_tp_c (by decide), ab_tp_c (by decide), ab_tp_c (by decide)]
    exact a5 i hi
  · obtain ⟨rk, hr⟩ := a6
    refine ⟨rk, fun i hi => ?_⟩
    rw [ab_tp_c (by decide), ab_tp_c (by decide)]
    exact hr i hi
theorem ab_ad.poly {b np pl z : Nat} {pa ma : Nat → Nat} (H : ab_ad b np pl z pa ma) : ab_ad b (np + 1) pl (z + 5) (va_up pa np z) ma := by
  obtain ⟨a0, a1, a2, a3, a4⟩ := H
  refine ⟨by omega, fun p hp => ?_, fun i hi => ⟨(a2 i hi).1, by have := (a2 i hi).2; omega⟩, fun p q hpq hq => ?_, fun p i hp hi => ?_⟩
  · by_cases e : p = np
    · rw [e, sv_us]; omega
    · rw [sv_un e]; have := a1 p (by omega); omega
  · by_cases e : q = np
    · rw [e, sv_us, sv_un (by omega)]; exact (a1 p (by omega)).2
    · rw [sv_un e, sv_un (by omega)]; exact a3 p q hpq (by omega)
  · by_cases e : p = np
    · rw [e, sv_us]; exact Or.inl (a2 i hi).2
    · rw [sv_un e]; exact a4 p i (by omega) hi
theorem ab_Lay.more {G : sv_G} {h h1 : sv_h} {b z : Nat} {k : Int32} {nc np pl : Nat} {sz : Nat → Nat} {t : Nat → Nat → Int32} {u : Nat → Nat → Nat → Int32} {pa ma : Nat → Nat} {f : Nat → Option Nat} (H : ab_Lay G h b k nc np pl sz t u pa ma) (A : ab_ad b np pl z pa ma) (hn : np < 64) (c l : Int32) (hf : ab_Q G h (b + 2) 4 64 f)
    (e1 : h1 (b + 1) = some (.inr (1, [.int k, .int (nI nc), .ref (b + 2), .int (nI (np + 1)), .ref (b + 3), .ref (b + 4), .ref (b + 5), .int (nI pl), .ref (b + 6), .ref (b + 7)]))) (e2 : ab_Q G h1 (b + 2) 4 64 (va_up f np (some z))) (e3 : h1 z = some (.inr (3, [.int c, .int l, .ref (z + 1), .ref (z + 2), .int 0, .int 0, .int 0, .int 0, .ref (z + 3), .ref (z + 4)])))
    (e4 : ab_I G h1 (z + 1) 16 (fun _ => 0)) (e5 : ab_I G h1 (z + 2) 16 (fun _ => 0)) (e6 : ab_I G h1 (z + 3) 16 (fun _ => 0)) (e7 : ab_I G h1 (z + 4) 16 (fun _ => 0)) (e : ∀ a, b + 3 ≤ a → a < b + 8 → h1 a = h a) (e8 : ∀ a, b + 262 ≤ a → a < z → h1 a = h a) : ab_Lay G h1 b k nc (np + 1) pl (va_up sz np 0) (ab_tp t np c l) u (va_up pa np z) ma := by
  obtain ⟨p1, ⟨f2, p2, q2⟩, ⟨f3, p3, q3⟩, ⟨f4, p4, q4⟩, ⟨f5, p5, q5⟩, ⟨f6, p6⟩, ⟨f7, p7⟩, p8, p9⟩ := H
  obtain ⟨a0, a1, a2, a3, a4⟩ := A
  obtain rfl : f2 = f := by
    have q := p2.symm.trans hf
    injection q with q
    injection q with q
    injection q with q1 q
    injection q with q1 q
    injection q with q
    injection q with q
    injection q with q
    injection q with q
  refine ⟨e1, ⟨_, e2, fun p hp => ?_⟩, ⟨f3, (e _ (by omega) (by omega)).trans p3, fun i hi => ?_⟩, ⟨f4, (e _ (by omega) (by omega)).trans p4, fun i hi => ?_⟩, ⟨f5, (e _ (by omega) (by omega)).trans p5, q5⟩, ⟨f6, (e _ (by omega) (by omega)).trans p6⟩, ⟨f7, (e _ (by omega) (by omega)).trans p7⟩, fun p hp => ?_, fun i hi => ?_⟩
  · by_cases q : p = np
    · rw [q, sv_us, sv_us]
    · rw [sv_un q, sv_un q]; exact q2 p (by omega)
  · rw [ab_tp_c (by decide)]; exact q3 i hi
  · rw [ab_tp_c (by decide)]; exact q4 i hi
  · by_cases q : p = np
    · rw [q, sv_us, sv_us, ab_tp_0, ab_tp_1, ab_tp_2]
      exact ⟨0, 0, _, _, _, _, e3, e4, e5, e6, e7, fun i hi => absurd hi (by omega), fun r => absurd r.1.1 (by omega), fun _ => rfl⟩
    · rw [sv_un q, sv_un q, ab_tp_i q, ab_tp_i q, ab_tp_i q]
      exact (p8 p (by omega)).kept (fun a q1 q2 => e8 a (by have := a1 p (by omega); omega) (by have := a1 p (by omega); omega))
  · rw [ab_tp_c (by decide), ab_tp_c (by decide), ab_tp_c (by decide)]
    exact (e8 _ (a2 i hi).1 (a2 i hi).2).trans (p9 i hi)
theorem g_polygon (G : sv_G) (hl0 : G.1.stackTraces = false) (b : Nat) (c l : Int32) : OpI G mX12_polygon mX13_polygon b (b + 220) (b + 261) ["java/lang/IndexOutOfBoundsException", "java/lang/IllegalStateException"] [.int c, .int l] (ab_Inv G b) (ab_Inv G b) := by
  refine OpI.of fun h z hi => ?_
  obtain ⟨k, nc, np, pl, sz, t, u, pa, ma, tn, tp, nr, r, ru, rd, nl, lr, la, fo, fl, nw, wr, lX, lq, lf, mf, fs, ⟨gok, gLay, gAd, gML⟩, ⟨gTp, gMTp⟩, ⟨gRu, gRd, gRl, gRr, gMR⟩, ⟨gLa, gFo, gFl, gLo, gMLa⟩, ⟨gWv, gMWv⟩, ⟨gDk, glq, gmf, glf⟩, ⟨gm, gfs⟩, ⟨gCk, gSc, go⟩⟩ := id hi
  obtain ⟨gru, i1, i2, i3, i4, i5, i6, i7, i8, i9, gla, gfo, gfl⟩ := id gDk.2
  have gz := gAd.1
  obtain ⟨f0, ho⟩ := id go
  obtain ⟨l1, ⟨fp, l2, l3⟩, l4⟩ := id gLay
  have hnp : np ≤ 64 := gok.2.1
  have hnc : nc ≤ 16 := gok.1
  by_cases hg : 0 ≤ c ∧ c < nI nc
  · by_cases hl : 0 ≤ l ∧ l < k
    · by_cases hn : np = 64
      · exact at_refI 1 hi rfl (c_polygon_f G hl0 h z b c l _ _ _ _ _ _ _ _ _ _ _ _ _ gDk.1 _ _ _ _ _ _ _ _ _ _ l1 hg hl (by rw [hn]; decide)) gm gfs.1 (fun z1 => m_polygon_f G h z1 b fs k nc np pl tn nr nl lq mf nw gfs gm c l hg hl hn)
      · obtain ⟨c0, hc0, rfl⟩ := sv_idx (by omega) hg
        obtain ⟨⟨m0, n0, o0⟩, ⟨m1, n1, o1⟩, ⟨m2, n2, o2⟩, ⟨m3, n3, o3⟩, ⟨m4, n4, o4⟩, ⟨m5, n5, o5⟩, ⟨m6, n6, o6⟩, ⟨m7, n7, o7⟩, ⟨m8, n8, o8⟩, ⟨m9, n9, o9⟩, ⟨m10, n10, o10⟩⟩ := id gML
        intro h0 z0 hpt
        obtain ⟨rfl, rfl⟩ := hpt
        refine ⟨_, _, c_polygon G hl0 h0 z0 b np (nI c0) l fp _ _ _ _ _ _ _ _ _ _ _ _ _ gDk.1 _ _ _ _ _ _ _ _ _ l1 l2 (by omega) (by omega) (by omega) (by omega) hg hl, fun v h1 z1 hq => ?_, fun E h1 z1 hq => hq.elim⟩
        obtain ⟨rfl, rfl, s1, s2, s3, s4, s5, s6, s7, s8⟩ := hq
        have hm1 := (s8 (b + 220) (by omega) (by omega) (by omega)).trans gm
        refine ⟨_, rfl, ⟨f0, (s8 _ (by omega) (by omega) (by omega)).trans ho⟩, by omega, ⟨_, hm1⟩, fun h2 g e1 e2 e3 => ?_⟩
        have hm2 : h2 (b + 220) = some (.inr (11, fs)) := (e3 _ (by omega)).trans hm1
        have lk : ∀ a, a < z0 → a ≠ b + 1 → a ≠ b + 2 → a ≠ b + 261 → h2 a = h0 a := fun a q1 q2 q3 q4 => (e3 a q4).trans (s8 a q1 q2 q3)
        refine ⟨_, m_polygon G h2 (z0 + 5) b fs k nc np pl tn nr nl lq mf nw gfs hm2 (nI c0) l m0 m1 m2 m3 ((lk _ (by omega) (by omega) (by omega) (by omega)).trans n0) ((lk _ (by omega) (by omega) (by omega) (by omega)).trans n1) ((lk _ (by omega) (by omega) (by omega) (by omega)).trans n2) ((lk _ (by omega) (by omega) (by omega) (by omega)).trans n3) hg hl (by omega), fun v2 h3 z3 hq2 => ?_⟩
        obtain ⟨rfl, rfl, r0, r1, r2, r3, r4, r5⟩ := hq2
        have e6 : ∀ a, a < z0 → a ≠ b + 1 → a ≠ b + 2 → a ≠ b + 261 → a ≠ b + 220 → a ≠ b + 221 → (a < b + 222 ∨ b + 225 ≤ a) → h3 a = h0 a := fun a q1 q2 q3 q4 q5 q6 q7 => (r5 a q5 q6 (by omega) (by omega) (by omega)).trans (lk a q1 q2 q3 q4)
        refine ⟨rfl, ⟨_, r0, by rw [List.length_set, List.length_set]; exact gfs.1, (List.getElem?_set_ne (by decide)).trans (sv_ls (by rw [gfs.1]; decide))⟩, (r5 _ (by omega) (by omega) (by omega) (by omega) (by omega)).trans e1, ?_⟩
        have hk3 : ∀ a, a ≠ b + 220 → (a < b + 221 ∨ b + 225 ≤ a) → a ≠ b + 261 → h3 a = h1 a := fun a q1 q2 q3 => (r5 a q1 (by omega) (by omega) (by omega) (by omega)).trans (e3 a q3)
        have gfs' : ab_fs b k nc (np + 1) pl tn nr nl lq mf nw ((fs.set 0 (.int 0)).set 3 (.int (nI np + 1))) := by rw [nI_1]; exact (gfs.code (.int 0)).polygons (np + 1)
        have gLay' : ab_Lay G h3 b k nc (np + 1) pl (va_up sz np 0) (ab_tp t np (nI c0) l) u (va_up pa np z0) ma := by
          refine gLay.more gAd (by omega) (nI c0) l l2 ?_ ((hk3 _ (by omega) (by omega) (by omega)).trans s2) ((hk3 _ (by omega) (by omega) (by omega)).trans s3) ((hk3 _ (by omega) (by omega) (by omega)).trans s4) ((hk3 _ (by omega) (by omega) (by omega)).trans s5) ((hk3 _ (by omega) (by omega) (by omega)).trans s6) ((hk3 _ (by omega) (by omega) (by omega)).trans s7) (fun a q1 q2 => e6 a (by omega) (by omega) (by omega) (by omega) (by omega) (by omega) (by omega)) (fun a q1 q2 => e6 a (by omega) (by omega) (by omega) (by omega) (by omega) (by omega) (by omega))
          rw [← nI_1]
          exact (hk3 _ (by omega) (by omega) (by omega)).trans s1
        have gML' : ab_MLay G h3 b nc (np + 1) pl (va_up sz np 0) (ab_tp t np (nI c0) l) u := ⟨⟨_, r1, fun p hp => by
        by_cases q : p = np
        · rw [q, ab_tp_0]; simp [upd]
        · rw [ab_tp_i q]; simp only [upd, if_neg q]; exact o0 p (by omega)⟩, ⟨_, r2, fun p hp => by
        by_cases q : p = np
        · rw [q, ab_tp_1]; simp [upd]
        · rw [ab_tp_i q]; simp only [upd, if_neg q]; exact o1 p (by omega)⟩, ⟨_, r3, fun p hp => by
        by_cases q : p = np
        · rw [q, ab_tp_2, sv_updL_eq]; rfl
        · rw [ab_tp_i q, sv_updL_ne q]; exact o2 p (by omega)⟩, ⟨_, r4, fun p hp => by
        by_cases q : p = np
        · rw [q, sv_us]; simp [upd]; rfl
        · rw [sv_un q]; simp only [upd, if_neg q]; exact o3 p (by omega)⟩, ⟨m4, (e6 _ (by omega) (by omega) (by omega) (by omega) (by omega) (by omega) (by omega)).trans n4, fun p i hp hi => by
        by_cases q : p = np
        · rw [q, sv_us] at hi; exact absurd hi (by omega)
        · rw [sv_un q] at hi; exact o4 p i (by omega) hi⟩, ⟨m5, (e6 _ (by omega) (by omega) (by omega) (by omega) (by omega) (by omega) (by omega)).trans n5, fun p i hp hi => by
        by_cases q : p = np
        · rw [q, sv_us] at hi; exact absurd hi (by omega)
        · rw [sv_un q] at hi; exact o5 p i (by omega) hi⟩, ⟨m6, (e6 _ (by omega) (by omega) (by omega) (by omega) (by omega) (by omega) (by omega)).trans n6, fun i hi => by rw [ab_tp_c (by decide)]; exact o6 i hi⟩, ⟨m7, (e6 _ (by omega) (by omega) (by omega) (by omega) (by omega) (by omega) (by omega)).trans n7, fun i hi => by rw [ab_tp_c (by decide)]; exact o7 i hi⟩, ⟨m8, (e6 _ (by omega) (by omega) (by omega) (by omega) (by omega) (by omega) (by omega)).trans n8, fun i hi => by rw [ab_tp_c (by decide)]; exact o8 i hi⟩, ⟨m9, (e6 _ (by omega) (by omega) (by omega) (by omega) (by omega) (by omega) (by omega)).trans n9, fun i hi => by rw [ab_tp_c (by decide)]; exact o9 i hi⟩, ⟨m10, (e6 _ (by omega) (by omega) (by omega) (by omega) (by omega) (by omega) (by omega)).trans n10, fun i hi => by rw [ab_tp_c (by decide)]; exact o10 i hi⟩⟩
        exact ⟨k, nc, np + 1, pl, va_up sz np 0, ab_tp t np (nI c0) l, u, va_up pa np z0, ma, tn, tp, nr, r, ru, rd, nl, lr, la, fo, fl, nw, wr, lX, lq, lf, mf, _, ⟨gok.poly (by omega) hc0 l, gLay', gAd.poly, gML'⟩, ⟨gTp.kept (fun a q1 q2 => e6 a (by omega) (by omega) (by omega) (by omega) (by omega) (by omega) (by omega)), gMTp.kept (fun a q1 q2 => e6 a (by omega) (by omega) (by omega) (by omega) (by omega) (by omega) (by omega))⟩, ⟨gRu.kept (by omega) (fun a q1 q2 => e6 a (by omega) (by omega) (by omega) (by omega) (by omega) (by omega) (by omega)), gRd.kept (by omega) (fun a q1 q2 => e6 a (by omega) (by omega) (by omega) (by omega) (by omega) (by omega) (by omega)), gRl.kept (fun a q1 q2 => e6 a (by omega) (by omega) (by omega) (by omega) (by omega) (by omega) (by omega)), gRr.kept (fun a q1 q2 => e6 a (by omega) (by omega) (by omega) (by omega) (by omega) (by omega) (by omega)), gMR.kept (fun a q1 q2 => e6 a (by omega) (by omega) (by omega) (by omega) (by omega) (by omega) (by omega))⟩, ⟨gLa.kept (fun a q1 q2 => e6 a (by omega) (by omega) (by omega) (by omega) (by omega) (by omega) (by omega)), gFo.kept (fun a q1 q2 => e6 a (by omega) (by omega) (by omega) (by omega) (by omega) (by omega) (by omega)), gFl.kept (fun a q1 q2 => e6 a (by omega) (by omega) (by omega) (by omega) (by omega) (by omega) (by omega)), gLo.kept (fun a q1 q2 => e6 a (by omega) (by omega) (by omega) (by omega) (by omega) (by omega) (by omega)), gMLa.kept (fun a q1 q2 => e6 a (by omega) (by omega) (by omega) (by omega) (by omega) (by omega) (by omega))⟩, ⟨gWv.kept (fun a q1 q2 => e6 a (by omega) (by omega) (by omega) (by omega) (by omega) (by omega) (by omega)), gMWv.kept (fun a q1 q2 => e6 a (by omega) (by omega) (by omega) (by omega) (by omega) (by omega) (by omega))⟩, ⟨gDk.kept (fun a q1 q2 => e6 a (by omega) (by omega) (by omega) (by omega) (by omega) (by omega) (by omega)), glq, gmf, glf⟩, ⟨r0, gfs'⟩, ⟨gCk.kept (fun a q1 q2 => e6 a (by omega) (by omega) (by omega) (by omega) (by omega) (by omega) (by omega)), gSc.kept (fun a q1 q2 => e6 a (by omega) (by omega) (by omega) (by omega) (by omega) (by omega) (by omega)), ⟨_, (r5 _ (by omega) (by omega) (by omega) (by omega) (by omega)).trans e1⟩⟩⟩
    · exact at_refI 0 hi rfl (c_polygon_l G hl0 h z b c l _ _ _ _ _ _ _ _ _ _ _ _ _ gDk.1 _ _ _ _ _ _ _ _ _ _ l1 hg hl) gm gfs.1 (fun z1 => m_polygon_l G h z1 b fs k nc np pl tn nr nl lq mf nw gfs gm c l hg hl)
  · exact at_refI 0 hi rfl (c_polygon_o G hl0 h z b _ _ _ _ _ _ _ _ _ _ _ _ _ gDk.1 c l _ _ _ _ _ _ _ _ _ _ l1 hg) gm gfs.1 (fun z1 => m_polygon_o G _ _ _ _ gfs.1 gm c l _ gfs.f_cells hg)
