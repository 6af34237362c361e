theorem iwX9_init_X9 : ∀ w ∈ wsX90, w ∈ wsX9_init := by decide +kernel
theorem iwX9_room_X9 : ∀ w ∈ wsX90, w ∈ wsX9_room := by decide +kernel
theorem iwX9_put_X9 : ∀ w ∈ wsX90, w ∈ wsX9_put := by decide +kernel
theorem iwX9_clear_X9 : ∀ w ∈ wsX90, w ∈ wsX9_clear := by decide +kernel
theorem dX9_init_0 : decode cX9_init 0 = .ok (.aload_n 0, 1) := by decide +kernel
theorem dX9_init_1 : decode cX9_init 1 = .ok (.invokespecial 1, 3) := by decide +kernel
theorem dX9_init_4 : decode cX9_init 4 = .ok (.aload_n 0, 1) := by decide +kernel
theorem dX9_init_5 : decode cX9_init 5 = .ok (.sipush 600, 3) := by decide +kernel
theorem dX9_init_8 : decode cX9_init 8 = .ok (.newarray .int, 2) := by decide +kernel
theorem dX9_init_10 : decode cX9_init 10 = .ok (.putfield 9, 3) := by decide +kernel
theorem dX9_init_13 : decode cX9_init 13 = .ok (.return_, 1) := by decide +kernel
theorem dX9_takes_0 : decode cX9_takes 0 = .ok (.iload_n 1, 1) := by decide +kernel
theorem dX9_takes_1 : decode cX9_takes 1 = .ok (.bipush 10, 2) := by decide +kernel
theorem dX9_takes_3 : decode cX9_takes 3 = .ok (.if_icmp .eq 15, 3) := by decide +kernel
theorem dX9_takes_6 : decode cX9_takes 6 = .ok (.iload_n 1, 1) := by decide +kernel
theorem dX9_takes_7 : decode cX9_takes 7 = .ok (.bipush 32, 2) := by decide +kernel
theorem dX9_takes_9 : decode cX9_takes 9 = .ok (.if_icmp .lt 13, 3) := by decide +kernel
theorem dX9_takes_12 : decode cX9_takes 12 = .ok (.iload_n 1, 1) := by decide +kernel
theorem dX9_takes_13 : decode cX9_takes 13 = .ok (.bipush 126, 2) := by decide +kernel
theorem dX9_takes_15 : decode cX9_takes 15 = .ok (.if_icmp .gt 7, 3) := by decide +kernel
theorem dX9_takes_18 : decode cX9_takes 18 = .ok (.iconst 1, 1) := by decide +kernel
theorem dX9_takes_19 : decode cX9_takes 19 = .ok (.goto 4, 3) := by decide +kernel
theorem dX9_takes_22 : decode cX9_takes 22 = .ok (.iconst 0, 1) := by decide +kernel
theorem dX9_takes_23 : decode cX9_takes 23 = .ok (.ireturn, 1) := by decide +kernel
theorem dX9_room_0 : decode cX9_room 0 = .ok (.sipush 600, 3) := by decide +kernel
theorem dX9_room_3 : decode cX9_room 3 = .ok (.aload_n 0, 1) := by decide +kernel
theorem dX9_room_4 : decode cX9_room 4 = .ok (.getfield 13, 3) := by decide +kernel
theorem dX9_room_7 : decode cX9_room 7 = .ok (.isub, 1) := by decide +kernel
theorem dX9_room_8 : decode cX9_room 8 = .ok (.ireturn, 1) := by decide +kernel
theorem dX9_put_0 : decode cX9_put 0 = .ok (.aload_n 0, 1) := by decide +kernel
theorem dX9_put_1 : decode cX9_put 1 = .ok (.getfield 13, 3) := by decide +kernel
theorem dX9_put_4 : decode cX9_put 4 = .ok (.sipush 600, 3) := by decide +kernel
theorem dX9_put_7 : decode cX9_put 7 = .ok (.if_icmp .ge 23, 3) := by decide +kernel
theorem dX9_put_10 : decode cX9_put 10 = .ok (.aload_n 0, 1) := by decide +kernel
theorem dX9_put_11 : decode cX9_put 11 = .ok (.getfield 9, 3) := by decide +kernel
theorem dX9_put_14 : decode cX9_put 14 = .ok (.aload_n 0, 1) := by decide +kernel
theorem dX9_put_15 : decode cX9_put 15 = .ok (.getfield 13, 3) := by decide +kernel
theorem dX9_put_18 : decode cX9_put 18 = .ok (.iload_n 1, 1) := by decide +kernel
theorem dX9_put_19 : decode cX9_put 19 = .ok (.iastore, 1) := by decide +kernel
theorem dX9_put_20 : decode cX9_put 20 = .ok (.aload_n 0, 1) := by decide +kernel
theorem dX9_put_21 : decode cX9_put 21 = .ok (.dup, 1) := by decide +kernel
theorem dX9_put_22 : decode cX9_put 22 = .ok (.getfield 13, 3) := by decide +kernel
theorem dX9_put_25 : decode cX9_put 25 = .ok (.iconst 1, 1) := by decide +kernel
theorem dX9_put_26 : decode cX9_put 26 = .ok (.iadd, 1) := by decide +kernel
theorem dX9_put_27 : decode cX9_put 27 = .ok (.putfield 13, 3) := by decide +kernel
theorem dX9_put_30 : decode cX9_put 30 = .ok (.return_, 1) := by decide +kernel
theorem dX9_clear_0 : decode cX9_clear 0 = .ok (.aload_n 0, 1) := by decide +kernel
theorem dX9_clear_1 : decode cX9_clear 1 = .ok (.iconst 0, 1) := by decide +kernel
theorem dX9_clear_2 : decode cX9_clear 2 = .ok (.putfield 13, 3) := by decide +kernel
theorem dX9_clear_5 : decode cX9_clear 5 = .ok (.return_, 1) := by decide +kernel

abbrev mX9_init : sv_M := (cX9_init, 1, yX9_init, wsX9_init, none, { frames := 1, cells := 1, slots := 600, locals := 20 }, [])
abbrev mX9_takes : sv_M := (cX9_takes, 2, yX9_takes, wsX9_takes, (some .boolean), { frames := 0, cells := 0, slots := 0, locals := 0 }, [])
abbrev mX9_room : sv_M := (cX9_room, 1, yX9_room, wsX9_room, (some .int), { frames := 0, cells := 0, slots := 0, locals := 0 }, [])
abbrev mX9_put : sv_M := (cX9_put, 2, yX9_put, wsX9_put, none, { frames := 0, cells := 0, slots := 0, locals := 0 }, [])
abbrev mX9_clear : sv_M := (cX9_clear, 1, yX9_clear, wsX9_clear, none, { frames := 0, cells := 0, slots := 0, locals := 0 }, [])
set_option maxHeartbeats 4000000 in
set_option maxRecDepth 100000 in
theorem c_Tape_init (G : sv_G) (h : sv_h) (z t : Nat) (x : Value) (n : Int32) (ht : h t = some (.inr (7, [x, .int n]))) (hz : t < z) : CT G mX9_init [.ref t] h z (fun v h1 z1 => v = none ∧ z1 = z + 1 ∧ h1 = va_up (va_up h z (some (.inl (G.2.2.1 0, 600, .inl (fun _ => 0))))) t (some (.inr (7, [.ref z, .int n])))) := by
  refine CT.of (by decide +kernel) rfl rfl (Nat.le_of_ble_eq_true rfl) ?_
  refine v_aload_n dX9_init_0 rfl 0 rfl ?_
  refine v_objI (by decide +kernel) (by decide +kernel) (by decide +kernel) dX9_init_1 (Nat.le_of_ble_eq_true rfl) (Nat.le_of_ble_eq_true rfl) ?_
  refine v_aload_n dX9_init_4 rfl 0 rfl ?_
  refine v_sipush (v := 600) dX9_init_5 (by decide) ?_
  refine v_newI (N := 600) (by decide +kernel) dX9_init_8 (by decide) (by decide) (by decide) (Nat.le_of_ble_eq_true rfl) (Nat.le_of_ble_eq_true rfl) ?_
  refine v_putF 0 (fs' := [_, _]) (ci := 7) (C := RX9) (T := TX9) (N := 2) (ty := (.array .int)) rfl iwX9_init_X9 tyX9 tyX9_ok nmX9 (Nat.le_of_ble_eq_true rfl) (by decide +kernel) rfl rfl rfl rfl dX9_init_10 rfl rfl (by repeat (first | (with_reducible refine sv_us.trans ?_; exact rfl) | with_reducible assumption | with_reducible refine (sv_un (by omega)).trans ?_)) (Nat.le_of_ble_eq_true rfl) rfl ?_
  exact v_ret rfl dX9_init_13 (Nat.le_of_ble_eq_true rfl) (Nat.le_of_ble_eq_true rfl) ⟨rfl, rfl, rfl⟩

set_option maxHeartbeats 4000000 in
set_option maxRecDepth 100000 in
theorem c_Tape_room (G : sv_G) (h : sv_h) (z t : Nat) (x : Value) (n : Int32) (ht : h t = some (.inr (7, [x, .int n]))) : CT G mX9_room [.ref t] h z (fun v h1 z1 => v = some (.int (600 - n)) ∧ z1 = z ∧ h1 = h) := by
  refine CT.of (by decide +kernel) rfl rfl (Nat.le_of_ble_eq_true rfl) ?_
  refine v_sipush (v := 600) dX9_room_0 (by decide) ?_
  refine v_aload_n dX9_room_3 rfl 0 rfl ?_
  refine v_getf 1 (ci := 7) (C := RX9) (T := TX9) (N := 2) rfl iwX9_room_X9 (Nat.le_of_ble_eq_true rfl) (by decide +kernel) dX9_room_4 (by repeat (first | (with_reducible refine sv_us.trans ?_; exact rfl) | with_reducible assumption | with_reducible refine (sv_un (by omega)).trans ?_)) rfl ?_
  refine v_isub dX9_room_7 ?_
  exact v_iret rfl dX9_room_8 (Nat.le_of_ble_eq_true rfl) (Nat.le_of_ble_eq_true rfl) rfl ⟨rfl, rfl, rfl⟩

set_option maxHeartbeats 4000000 in
set_option maxRecDepth 100000 in
theorem c_Tape_clear (G : sv_G) (h : sv_h) (z t : Nat) (x : Value) (n : Int32) (ht : h t = some (.inr (7, [x, .int n]))) : CT G mX9_clear [.ref t] h z (fun v h1 z1 => v = none ∧ z1 = z ∧ h1 = va_up h t (some (.inr (7, [x, .int 0])))) := by
  refine CT.of (by decide +kernel) rfl rfl (Nat.le_of_ble_eq_true rfl) ?_
  refine v_aload_n dX9_clear_0 rfl 0 rfl ?_
  refine v_iconst (v := 0) dX9_clear_1 (by decide) ?_
  refine v_putf 1 (fs' := [_, _]) (ci := 7) (C := RX9) (T := TX9) (N := 2) (ty := .int) rfl iwX9_clear_X9 tyX9 tyX9_ok nmX9 (Nat.le_of_ble_eq_true rfl) (by decide +kernel) rfl rfl dX9_clear_2 rfl rfl (by repeat (first | (with_reducible refine sv_us.trans ?_; exact rfl) | with_reducible assumption | with_reducible refine (sv_un (by omega)).trans ?_)) (Nat.le_of_ble_eq_true rfl) rfl ?_
  exact v_ret rfl dX9_clear_5 (Nat.le_of_ble_eq_true rfl) (Nat.le_of_ble_eq_true rfl) ⟨rfl, rfl, rfl⟩
