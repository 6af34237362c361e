set_option maxHeartbeats 4000000 in
set_option maxRecDepth 100000 in
theorem c_RuleDeck_init (G : sv_G) (h : sv_h) (z b : Nat) (l : Int32) (hz : b < z) (ht : h b = some (.inr (10, [.null, .null, .null, .null, .null, .null, .int 0, .int 0, .int 0, .null, .null, .null, .null]))) : CT G mX12_init [.ref b, .int l] h z (fun v h1 z1 => v = none ∧ z1 = z + 219 ∧ sv_new G b z (sv_lay l) h1 ∧ ∀ a, a < z → a ≠ b → h1 a = h a) := by
  refine CT.of (by decide +kernel) rfl rfl (Nat.le_of_ble_eq_true rfl) ?_
  refine v_aload_n dX12_init_0 rfl 0 rfl ?_
  refine v_objI (by decide +kernel) (by decide +kernel) (by decide +kernel) dX12_init_1 (Nat.le_of_ble_eq_true rfl) (Nat.le_of_ble_eq_true rfl) ?_
  refine v_iload_n dX12_init_4 rfl 1 rfl ?_
  refine v_iconst (v := 1) dX12_init_5 (by decide) ?_
  refine v_icmp_ge (tgt := 13) dX12_init_6 (by decide) (fun c_6 => ?_) (fun c_6 => ?_)
  · refine v_iload_n dX12_init_13 rfl 1 rfl ?_
    refine v_ldc (v := (65536)) (by decide +kernel) dX12_init_14 ?_
    refine v_icmp_le (tgt := 24) dX12_init_16 (by decide) (fun c_16 => ?_) (fun c_16 => ?_)
    · refine v_iload_n dX12_init_24 rfl 1 rfl ?_
      refine v_istore_n (L' := [(2, _), (0, _), (1, _)]) dX12_init_25 rfl (Nat.le_of_ble_eq_true rfl) rfl ?_
      first
      | (rw [show sv_lay l = l from by unfold sv_lay; rw [if_neg (Int32.not_lt.mpr c_6), if_neg (Int32.not_lt.mpr c_16)]]; exact t_RuleDeck_init G h z b _ l hz ht)
      | (rw [show sv_lay l = 65536 from by unfold sv_lay; rw [if_neg (Int32.not_lt.mpr c_6), if_pos (Int32.not_le.mp c_16)]]; exact t_RuleDeck_init G h z b _ l hz ht)
      | (rw [show sv_lay l = 1 from by unfold sv_lay; rw [if_pos (Int32.not_le.mp c_6)]]; exact t_RuleDeck_init G h z b _ l hz ht)
    · refine v_ldc (v := (65536)) (by decide +kernel) dX12_init_19 ?_
      refine v_goto (tgt := 25) dX12_init_21 (by decide) ?_
      refine v_istore_n (L' := [(2, _), (0, _), (1, _)]) dX12_init_25 rfl (Nat.le_of_ble_eq_true rfl) rfl ?_
      first
      | (rw [show sv_lay l = l from by unfold sv_lay; rw [if_neg (Int32.not_lt.mpr c_6), if_neg (Int32.not_lt.mpr c_16)]]; exact t_RuleDeck_init G h z b _ l hz ht)
      | (rw [show sv_lay l = 65536 from by unfold sv_lay; rw [if_neg (Int32.not_lt.mpr c_6), if_pos (Int32.not_le.mp c_16)]]; exact t_RuleDeck_init G h z b _ l hz ht)
      | (rw [show sv_lay l = 1 from by unfold sv_lay; rw [if_pos (Int32.not_le.mp c_6)]]; exact t_RuleDeck_init G h z b _ l hz ht)
  · refine v_iconst (v := 1) dX12_init_9 (by decide) ?_
    refine v_goto (tgt := 25) dX12_init_10 (by decide) ?_
    refine v_istore_n (L' := [(2, _), (0, _), (1, _)]) dX12_init_25 rfl (Nat.le_of_ble_eq_true rfl) rfl ?_
    first
    | (rw [show sv_lay l = l from by unfold sv_lay; rw [if_neg (Int32.not_lt.mpr c_6), if_neg (Int32.not_lt.mpr c_16)]]; exact t_RuleDeck_init G h z b _ l hz ht)
    | (rw [show sv_lay l = 65536 from by unfold sv_lay; rw [if_neg (Int32.not_lt.mpr c_6), if_pos (Int32.not_le.mp c_16)]]; exact t_RuleDeck_init G h z b _ l hz ht)
    | (rw [show sv_lay l = 1 from by unfold sv_lay; rw [if_pos (Int32.not_le.mp c_6)]]; exact t_RuleDeck_init G h z b _ l hz ht)
