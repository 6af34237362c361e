theorem dX12_isCoordinate_0 : decode cX12_isCoordinate 0 = .ok (.lload_n 0, 1) := by decide +kernel
theorem dX12_isCoordinate_1 : decode cX12_isCoordinate 1 = .ok (.ldc2_w 263, 3) := by decide +kernel
theorem dX12_isCoordinate_4 : decode cX12_isCoordinate 4 = .ok (.lcmp, 1) := by decide +kernel
theorem dX12_isCoordinate_5 : decode cX12_isCoordinate 5 = .ok (.ifCond .lt 15, 3) := by decide +kernel
theorem dX12_isCoordinate_8 : decode cX12_isCoordinate 8 = .ok (.lload_n 0, 1) := by decide +kernel
theorem dX12_isCoordinate_9 : decode cX12_isCoordinate 9 = .ok (.ldc2_w 265, 3) := by decide +kernel
theorem dX12_isCoordinate_12 : decode cX12_isCoordinate 12 = .ok (.lcmp, 1) := by decide +kernel
theorem dX12_isCoordinate_13 : decode cX12_isCoordinate 13 = .ok (.ifCond .gt 7, 3) := by decide +kernel
theorem dX12_isCoordinate_16 : decode cX12_isCoordinate 16 = .ok (.iconst 1, 1) := by decide +kernel
theorem dX12_isCoordinate_17 : decode cX12_isCoordinate 17 = .ok (.goto 4, 3) := by decide +kernel
theorem dX12_isCoordinate_20 : decode cX12_isCoordinate 20 = .ok (.iconst 0, 1) := by decide +kernel
theorem dX12_isCoordinate_21 : decode cX12_isCoordinate 21 = .ok (.ireturn, 1) := by decide +kernel
theorem dX13_isIn_0 : decode cX13_isIn 0 = .ok (.lload_n 0, 1) := by decide +kernel
theorem dX13_isIn_1 : decode cX13_isIn 1 = .ok (.ldc2_w 144, 3) := by decide +kernel
theorem dX13_isIn_4 : decode cX13_isIn 4 = .ok (.lcmp, 1) := by decide +kernel
theorem dX13_isIn_5 : decode cX13_isIn 5 = .ok (.ifCond .lt 15, 3) := by decide +kernel
theorem dX13_isIn_8 : decode cX13_isIn 8 = .ok (.lload_n 0, 1) := by decide +kernel
theorem dX13_isIn_9 : decode cX13_isIn 9 = .ok (.ldc2_w 146, 3) := by decide +kernel
theorem dX13_isIn_12 : decode cX13_isIn 12 = .ok (.lcmp, 1) := by decide +kernel
theorem dX13_isIn_13 : decode cX13_isIn 13 = .ok (.ifCond .gt 7, 3) := by decide +kernel
theorem dX13_isIn_16 : decode cX13_isIn 16 = .ok (.iconst 1, 1) := by decide +kernel
theorem dX13_isIn_17 : decode cX13_isIn 17 = .ok (.goto 4, 3) := by decide +kernel
theorem dX13_isIn_20 : decode cX13_isIn 20 = .ok (.iconst 0, 1) := by decide +kernel
theorem dX13_isIn_21 : decode cX13_isIn 21 = .ok (.ireturn, 1) := by decide +kernel


set_option maxRecDepth 20000 in
theorem ggX13_corner_X13_isIn : GoodIn wsX13_corner wsX13_isIn := goodIn_r _ [13, 14, 15] (by decide +kernel) (by decide +kernel)
abbrev mX12_isCoordinate : sv_M := (cX12_isCoordinate, 2, yX12_isCoordinate, wsX12_isCoordinate, (some .boolean), { frames := 0, cells := 0, slots := 0, locals := 0 }, [])
abbrev mX13_isIn : sv_M := (cX13_isIn, 2, yX13_isIn, wsX13_isIn, (some .boolean), { frames := 0, cells := 0, slots := 0, locals := 0 }, [])
set_option maxHeartbeats 4000000 in
set_option maxRecDepth 100000 in
theorem c_isCoord (G : sv_G) (h : sv_h) (z : Nat) (x : Int64) : CT G mX12_isCoordinate [.long x] h z (fun v h1 z1 => v = some (.int (if (¬ x < -10000 ∧ x ≤ 10000) then 1 else 0)) ∧ h1 = h ∧ z1 = z) := by
  refine CT.of (by decide +kernel) rfl rfl (Nat.le_of_ble_eq_true rfl) ?_
  refine v_lload_n dX12_isCoordinate_0 rfl 0 rfl ?_
  refine v_ldc2 (v := (-10000)) (by decide +kernel) dX12_isCoordinate_1 ?_
  refine v_lcmp_lt (tgt := 20) dX12_isCoordinate_4 dX12_isCoordinate_5 (by decide) (fun c_5 => ?_) (fun c_5 => ?_)
  · refine v_iconst (v := 0) dX12_isCoordinate_20 (by decide) ?_
    exact v_iret rfl dX12_isCoordinate_21 (Nat.le_of_ble_eq_true rfl) (Nat.le_of_ble_eq_true rfl) rfl ⟨by first | exact congrArg (fun i => some (Value.int i)) (if_pos ⟨c_5, Int64.not_lt.mp c_13⟩).symm | exact congrArg (fun i => some (Value.int i)) (if_neg (fun q => Int64.not_lt.mpr q.2 c_13)).symm | exact congrArg (fun i => some (Value.int i)) (if_neg (fun q => q.1 c_5)).symm, rfl, rfl⟩
  · refine v_lload_n dX12_isCoordinate_8 rfl 0 rfl ?_
    refine v_ldc2 (v := (10000)) (by decide +kernel) dX12_isCoordinate_9 ?_
    refine v_lcmp_gt (tgt := 20) dX12_isCoordinate_12 dX12_isCoordinate_13 (by decide) (fun c_13 => ?_) (fun c_13 => ?_)
    · refine v_iconst (v := 0) dX12_isCoordinate_20 (by decide) ?_
      exact v_iret rfl dX12_isCoordinate_21 (Nat.le_of_ble_eq_true rfl) (Nat.le_of_ble_eq_true rfl) rfl ⟨by first | exact congrArg (fun i => some (Value.int i)) (if_pos ⟨c_5, Int64.not_lt.mp c_13⟩).symm | exact congrArg (fun i => some (Value.int i)) (if_neg (fun q => Int64.not_lt.mpr q.2 c_13)).symm | exact congrArg (fun i => some (Value.int i)) (if_neg (fun q => q.1 c_5)).symm, rfl, rfl⟩
    · refine v_iconst (v := 1) dX12_isCoordinate_16 (by decide) ?_
      refine v_goto (tgt := 21) dX12_isCoordinate_17 (by decide) ?_
      exact v_iret rfl dX12_isCoordinate_21 (Nat.le_of_ble_eq_true rfl) (Nat.le_of_ble_eq_true rfl) rfl ⟨by first | exact congrArg (fun i => some (Value.int i)) (if_pos ⟨c_5, Int64.not_lt.mp c_13⟩).symm | exact congrArg (fun i => some (Value.int i)) (if_neg (fun q => Int64.not_lt.mpr q.2 c_13)).symm | exact congrArg (fun i => some (Value.int i)) (if_neg (fun q => q.1 c_5)).symm, rfl, rfl⟩

set_option maxHeartbeats 4000000 in
set_option maxRecDepth 100000 in
theorem m_isIn (G : sv_G) (h : sv_h) (z : Nat) (x : Int64) : CT G mX13_isIn [.long x] h z (fun v h1 z1 => v = some (.int (if (¬ x < -10000 ∧ x ≤ 10000) then 1 else 0)) ∧ h1 = h ∧ z1 = z) := by
  refine CT.of (by decide +kernel) rfl rfl (Nat.le_of_ble_eq_true rfl) ?_
  refine v_lload_n dX13_isIn_0 rfl 0 rfl ?_
  refine v_ldc2 (v := (-10000)) (by decide +kernel) dX13_isIn_1 ?_
  refine v_lcmp_lt (tgt := 20) dX13_isIn_4 dX13_isIn_5 (by decide) (fun c_5 => ?_) (fun c_5 => ?_)
  · refine v_iconst (v := 0) dX13_isIn_20 (by decide) ?_
    exact v_iret rfl dX13_isIn_21 (Nat.le_of_ble_eq_true rfl) (Nat.le_of_ble_eq_true rfl) rfl ⟨by first | exact congrArg (fun i => some (Value.int i)) (if_pos ⟨c_5, Int64.not_lt.mp c_13⟩).symm | exact congrArg (fun i => some (Value.int i)) (if_neg (fun q => Int64.not_lt.mpr q.2 c_13)).symm | exact congrArg (fun i => some (Value.int i)) (if_neg (fun q => q.1 c_5)).symm, rfl, rfl⟩
  · refine v_lload_n dX13_isIn_8 rfl 0 rfl ?_
    refine v_ldc2 (v := (10000)) (by decide +kernel) dX13_isIn_9 ?_
    refine v_lcmp_gt (tgt := 20) dX13_isIn_12 dX13_isIn_13 (by decide) (fun c_13 => ?_) (fun c_13 => ?_)
    · refine v_iconst (v := 0) dX13_isIn_20 (by decide) ?_
      exact v_iret rfl dX13_isIn_21 (Nat.le_of_ble_eq_true rfl) (Nat.le_of_ble_eq_true rfl) rfl ⟨by first | exact congrArg (fun i => some (Value.int i)) (if_pos ⟨c_5, Int64.not_lt.mp c_13⟩).symm | exact congrArg (fun i => some (Value.int i)) (if_neg (fun q => Int64.not_lt.mpr q.2 c_13)).symm | exact congrArg (fun i => some (Value.int i)) (if_neg (fun q => q.1 c_5)).symm, rfl, rfl⟩
    · refine v_iconst (v := 1) dX13_isIn_16 (by decide) ?_
      refine v_goto (tgt := 21) dX13_isIn_17 (by decide) ?_
      exact v_iret rfl dX13_isIn_21 (Nat.le_of_ble_eq_true rfl) (Nat.le_of_ble_eq_true rfl) rfl ⟨by first | exact congrArg (fun i => some (Value.int i)) (if_pos ⟨c_5, Int64.not_lt.mp c_13⟩).symm | exact congrArg (fun i => some (Value.int i)) (if_neg (fun q => Int64.not_lt.mpr q.2 c_13)).symm | exact congrArg (fun i => some (Value.int i)) (if_neg (fun q => q.1 c_5)).symm, rfl, rfl⟩

set_option maxHeartbeats 4000000 in
set_option maxRecDepth 100000 in
theorem c_corner (G : sv_G) (hl0 : G.1.stackTraces = false) (h : sv_h) (z b p a n : Nat) (x y : Int64) (ly tp rd ck wv ru la fo fl lo : Nat) (rc lr lf : Int32) (hb : h b = some (.inr (10, [.ref ly, .ref tp, .ref rd, .ref ck, .ref wv, .ref ru, .int rc, .int lr, .int lf, .ref la, .ref fo, .ref fl, .ref lo]))) (po hd hs mo he nh : Nat) (k cs pn pl : Int32) (hly : h ly = some (.inr (1, [.int k, .int cs, .ref po, .int pn, .ref hd, .ref hs, .ref mo, .int pl, .ref he, .ref nh]))) (hg : 0 ≤ nI p ∧ nI p < pn) (f : Nat → Option Nat) (hpo : h po = some (.inl (G.2.2.1 4, 64, .inr (.inr (.inr (.inr f)))))) (hp64 : p < 64) (hfp : f p = some a) (hm l0 vo rt ar : Int32) (fx fy f3 f4 : Nat → Int32) (hp : h a = some (.inr (3, [.int hm, .int l0, .ref (a + 1), .ref (a + 2), .int (nI n), .int vo, .int rt, .int ar, .ref (a + 3), .ref (a + 4)]))) (hx : ab_I G h (a + 1) 16 fx) (hy : ab_I G h (a + 2) 16 fy) (h3 : ab_I G h (a + 3) 16 f3) (h4 : ab_I G h (a + 4) 16 f4) (hn : n < 16) (hcx : (¬ x < -10000 ∧ x ≤ 10000)) (hcy : (¬ y < -10000 ∧ y ≤ 10000)) : CX G mX12_corner [.ref b, .int (nI p), .long x, .long y] h z (fun v h1 z1 => ∃ w : Int32, v = some (.int w) ∧ ((w = 0 ∧ (0 < n ∧ (x.toInt32 = fx (n - 1) ↔ y.toInt32 = fy (n - 1))) ∧ h1 = h ∧ z1 = z) ∨ (w = 1 ∧ ¬ (0 < n ∧ (x.toInt32 = fx (n - 1) ↔ y.toInt32 = fy (n - 1))) ∧ z1 = z ∧ ∃ (rt1 ar1 : Int32) (ff fo : Nat → Int32), h1 a = some (.inr (3, [.int hm, .int l0, .ref (a + 1), .ref (a + 2), .int (nI (n + 1)), .int vo, .int rt1, .int ar1, .ref (a + 3), .ref (a + 4)])) ∧ ab_I G h1 (a + 1) 16 (upd fx n x.toInt32) ∧ ab_I G h1 (a + 2) 16 (upd fy n y.toInt32) ∧ ab_I G h1 (a + 3) 16 ff ∧ ab_I G h1 (a + 4) 16 fo ∧ ab_set (n + 1) (upd fx n x.toInt32) (upd fy n y.toInt32) rt1 ar1 ff fo ∧ ∀ w, (w < a ∨ a + 5 ≤ w) → h1 w = h w))) (fun _ _ _ => False) := by
  refine CX.of (by decide +kernel) rfl rfl (Nat.le_of_ble_eq_true rfl) ?_
  refine v_aload_n dX12_corner_0 rfl 0 rfl ?_
  refine v_getf 0 (ci := 10) (C := RX12) (T := TX12) (N := 13) rfl iwX12_corner_X12 (Nat.le_of_ble_eq_true rfl) (by decide +kernel) dX12_corner_1 (by repeat (first | (with_reducible refine sv_us.trans ?_; exact rfl) | with_reducible assumption | with_reducible refine (sv_un (by omega)).trans ?_)) rfl ?_
  refine v_iload_n dX12_corner_4 rfl 1 rfl ?_
  refine v_callV (M' := mX3_hasPolygon) (n := 1) (As := [_]) (ci := 1) (r := (RX3, TX3, 10)) gX12_corner_X3_hasPolygon rfl (by decide +kernel) ⟨(Nat.le_of_ble_eq_true rfl), (Nat.le_of_ble_eq_true rfl)⟩ rfl rfl dX12_corner_5 rfl ⟨(Nat.le_of_ble_eq_true rfl), (Nat.le_of_ble_eq_true rfl)⟩ (Nat.le_of_ble_eq_true rfl) (by repeat (first | (with_reducible refine sv_us.trans ?_; exact rfl) | with_reducible assumption | with_reducible refine (sv_un (by omega)).trans ?_)) rfl (c_hasPolygon G _ _ _ _ _ _ _ _ _ _ _ _ _ _ hly) (fun v h1 z1 hq => ?_)
  rw [if_pos hg] at hq
  obtain ⟨rfl, rfl, rfl⟩ := hq
  refine v_if_ne (tgt := 21) dX12_corner_8 (by decide) (fun c_8 => ?_) (fun c_8 => ?_)
  · refine v_aload_n dX12_corner_21 rfl 0 rfl ?_
    refine v_getf 0 (ci := 10) (C := RX12) (T := TX12) (N := 13) rfl iwX12_corner_X12 (Nat.le_of_ble_eq_true rfl) (by decide +kernel) dX12_corner_22 (by repeat (first | (with_reducible refine sv_us.trans ?_; exact rfl) | with_reducible assumption | with_reducible refine (sv_un (by omega)).trans ?_)) rfl ?_
    refine v_getf 2 (ci := 1) (C := RX3) (T := TX3) (N := 10) rfl iwX12_corner_X3 (Nat.le_of_ble_eq_true rfl) (by decide +kernel) dX12_corner_25 (by repeat (first | (with_reducible refine sv_us.trans ?_; exact rfl) | with_reducible assumption | with_reducible refine (sv_un (by omega)).trans ?_)) rfl ?_
    refine v_iload_n dX12_corner_28 rfl 1 rfl ?_
    refine v_aaldS (t := 4) (q := a) dX12_corner_29 (fun _ => rfl) (by repeat (first | (with_reducible refine sv_us.trans ?_; exact rfl) | with_reducible assumption | with_reducible refine (sv_un (by omega)).trans ?_)) (vp_in_nI hp64 (by omega)) (by rw [nI_clamp (by omega)]; exact hfp) ?_
    refine v_astore (L' := [(6, _), (0, _), (1, _), (2, _), (4, _)]) dX12_corner_30 (Nat.le_of_ble_eq_true rfl) rfl ?_
    refine v_aload dX12_corner_32 0 rfl ?_
    refine v_getf 4 (ci := 3) (C := RX5) (T := TX5) (N := 10) rfl iwX12_corner_X5 (Nat.le_of_ble_eq_true rfl) (by decide +kernel) dX12_corner_34 (by repeat (first | (with_reducible refine sv_us.trans ?_; exact rfl) | with_reducible assumption | with_reducible refine (sv_un (by omega)).trans ?_)) rfl ?_
    refine v_bipush (v := 16) dX12_corner_37 (by decide) ?_
    refine v_icmp_lt (tgt := 52) dX12_corner_39 (by decide) (fun c_39 => ?_) (fun c_39 => ?_)
    · refine v_lload_n dX12_corner_52 rfl 3 rfl ?_
      refine v_callS (M' := mX12_isCoordinate) (n := 1) (As := [_]) ggX12_corner_X12_isCoordinate (by decide +kernel) (by decide +kernel) (by decide +kernel) rfl (by decide +kernel) ⟨(Nat.le_of_ble_eq_true rfl), (Nat.le_of_ble_eq_true rfl)⟩ dX12_corner_53 rfl ⟨(Nat.le_of_ble_eq_true rfl), (Nat.le_of_ble_eq_true rfl)⟩ (Nat.le_of_ble_eq_true rfl) rfl (c_isCoord G _ _ x) (fun v h1 z1 hq => ?_)
      rw [if_pos hcx] at hq
      obtain ⟨rfl, rfl, rfl⟩ := hq
      refine v_if_eq (tgt := 67) dX12_corner_56 (by decide) (fun c_56 => ?_) (fun c_56 => ?_)
      · exact absurd c_56 (by decide)
      · refine v_lload dX12_corner_59 4 rfl ?_
        refine v_callS (M' := mX12_isCoordinate) (n := 1) (As := [_]) ggX12_corner_X12_isCoordinate (by decide +kernel) (by decide +kernel) (by decide +kernel) rfl (by decide +kernel) ⟨(Nat.le_of_ble_eq_true rfl), (Nat.le_of_ble_eq_true rfl)⟩ dX12_corner_61 rfl ⟨(Nat.le_of_ble_eq_true rfl), (Nat.le_of_ble_eq_true rfl)⟩ (Nat.le_of_ble_eq_true rfl) rfl (c_isCoord G _ _ y) (fun v h1 z1 hq => ?_)
        rw [if_pos hcy] at hq
        obtain ⟨rfl, rfl, rfl⟩ := hq
        refine v_if_ne (tgt := 77) dX12_corner_64 (by decide) (fun c_64 => ?_) (fun c_64 => ?_)
        · refine v_aload dX12_corner_77 0 rfl ?_
          refine v_lload_n dX12_corner_79 rfl 3 rfl ?_
          refine v_l2i dX12_corner_80 rfl ?_
          refine v_lload dX12_corner_81 4 rfl ?_
          refine v_l2i dX12_corner_83 rfl ?_
          refine v_callV (M' := mX5_extend) (n := 2) (As := [_, _]) (ci := 3) (r := (RX5, TX5, 10)) gX12_corner_X5_extend rfl (by decide +kernel) ⟨(Nat.le_of_ble_eq_true rfl), (Nat.le_of_ble_eq_true rfl)⟩ rfl rfl dX12_corner_84 rfl ⟨(Nat.le_of_ble_eq_true rfl), (Nat.le_of_ble_eq_true rfl)⟩ (Nat.le_of_ble_eq_true rfl) (by repeat (first | (with_reducible refine sv_us.trans ?_; exact rfl) | with_reducible assumption | with_reducible refine (sv_un (by omega)).trans ?_)) rfl (c_extend G _ _ a n _ _ _ _ _ fx fy hp hx hy hn f3 f4 h3 h4 x.toInt32 y.toInt32) (fun v h1 z1 hq => ?_)
          obtain ⟨w9, rfl, hw9⟩ := hq
          exact v_xret (v_iret rfl dX12_corner_87 (Nat.le_of_ble_eq_true rfl) (Nat.le_of_ble_eq_true rfl) (by rcases hw9 with ⟨e9, _⟩ | ⟨e9, _⟩ <;> (rw [e9]; rfl)) ⟨w9, rfl, hw9⟩)
        · exact absurd c_64 (by decide)
    · exact absurd (nI_lt (b := 16) hn (by omega)) c_39
  · exact absurd c_8 (by decide)

set_option maxHeartbeats 4000000 in
set_option maxRecDepth 100000 in
theorem c_corner_f (G : sv_G) (hl0 : G.1.stackTraces = false) (h : sv_h) (z b p a n : Nat) (x y : Int64) (ly tp rd ck wv ru la fo fl lo : Nat) (rc lr lf : Int32) (hb : h b = some (.inr (10, [.ref ly, .ref tp, .ref rd, .ref ck, .ref wv, .ref ru, .int rc, .int lr, .int lf, .ref la, .ref fo, .ref fl, .ref lo]))) (po hd hs mo he nh : Nat) (k cs pn pl : Int32) (hly : h ly = some (.inr (1, [.int k, .int cs, .ref po, .int pn, .ref hd, .ref hs, .ref mo, .int pl, .ref he, .ref nh]))) (hg : 0 ≤ nI p ∧ nI p < pn) (f : Nat → Option Nat) (hpo : h po = some (.inl (G.2.2.1 4, 64, .inr (.inr (.inr (.inr f)))))) (hp64 : p < 64) (hfp : f p = some a) (hm l0 vo rt ar : Int32) (fx fy f3 f4 : Nat → Int32) (hp : h a = some (.inr (3, [.int hm, .int l0, .ref (a + 1), .ref (a + 2), .int (nI n), .int vo, .int rt, .int ar, .ref (a + 3), .ref (a + 4)]))) (hx : ab_I G h (a + 1) 16 fx) (hy : ab_I G h (a + 2) 16 fy) (h3 : ab_I G h (a + 3) 16 f3) (h4 : ab_I G h (a + 4) 16 f4) (hn : ¬ n < 16) (hn2 : n ≤ 16) : CX G mX12_corner [.ref b, .int (nI p), .long x, .long y] h z (fun _ _ _ => False) (fun E h1 z1 => E = "java/lang/IllegalStateException" ∧ h1 = h) := by
  refine CX.of (by decide +kernel) rfl rfl (Nat.le_of_ble_eq_true rfl) ?_
  refine v_aload_n dX12_corner_0 rfl 0 rfl ?_
  refine v_getf 0 (ci := 10) (C := RX12) (T := TX12) (N := 13) rfl iwX12_corner_X12 (Nat.le_of_ble_eq_true rfl) (by decide +kernel) dX12_corner_1 (by repeat (first | (with_reducible refine sv_us.trans ?_; exact rfl) | with_reducible assumption | with_reducible refine (sv_un (by omega)).trans ?_)) rfl ?_
  refine v_iload_n dX12_corner_4 rfl 1 rfl ?_
  refine v_callV (M' := mX3_hasPolygon) (n := 1) (As := [_]) (ci := 1) (r := (RX3, TX3, 10)) gX12_corner_X3_hasPolygon rfl (by decide +kernel) ⟨(Nat.le_of_ble_eq_true rfl), (Nat.le_of_ble_eq_true rfl)⟩ rfl rfl dX12_corner_5 rfl ⟨(Nat.le_of_ble_eq_true rfl), (Nat.le_of_ble_eq_true rfl)⟩ (Nat.le_of_ble_eq_true rfl) (by repeat (first | (with_reducible refine sv_us.trans ?_; exact rfl) | with_reducible assumption | with_reducible refine (sv_un (by omega)).trans ?_)) rfl (c_hasPolygon G _ _ _ _ _ _ _ _ _ _ _ _ _ _ hly) (fun v h1 z1 hq => ?_)
  rw [if_pos hg] at hq
  obtain ⟨rfl, rfl, rfl⟩ := hq
  refine v_if_ne (tgt := 21) dX12_corner_8 (by decide) (fun c_8 => ?_) (fun c_8 => ?_)
  · refine v_aload_n dX12_corner_21 rfl 0 rfl ?_
    refine v_getf 0 (ci := 10) (C := RX12) (T := TX12) (N := 13) rfl iwX12_corner_X12 (Nat.le_of_ble_eq_true rfl) (by decide +kernel) dX12_corner_22 (by repeat (first | (with_reducible refine sv_us.trans ?_; exact rfl) | with_reducible assumption | with_reducible refine (sv_un (by omega)).trans ?_)) rfl ?_
    refine v_getf 2 (ci := 1) (C := RX3) (T := TX3) (N := 10) rfl iwX12_corner_X3 (Nat.le_of_ble_eq_true rfl) (by decide +kernel) dX12_corner_25 (by repeat (first | (with_reducible refine sv_us.trans ?_; exact rfl) | with_reducible assumption | with_reducible refine (sv_un (by omega)).trans ?_)) rfl ?_
    refine v_iload_n dX12_corner_28 rfl 1 rfl ?_
    refine v_aaldS (t := 4) (q := a) dX12_corner_29 (fun _ => rfl) (by repeat (first | (with_reducible refine sv_us.trans ?_; exact rfl) | with_reducible assumption | with_reducible refine (sv_un (by omega)).trans ?_)) (vp_in_nI hp64 (by omega)) (by rw [nI_clamp (by omega)]; exact hfp) ?_
    refine v_astore (L' := [(6, _), (0, _), (1, _), (2, _), (4, _)]) dX12_corner_30 (Nat.le_of_ble_eq_true rfl) rfl ?_
    refine v_aload dX12_corner_32 0 rfl ?_
    refine v_getf 4 (ci := 3) (C := RX5) (T := TX5) (N := 10) rfl iwX12_corner_X5 (Nat.le_of_ble_eq_true rfl) (by decide +kernel) dX12_corner_34 (by repeat (first | (with_reducible refine sv_us.trans ?_; exact rfl) | with_reducible assumption | with_reducible refine (sv_un (by omega)).trans ?_)) rfl ?_
    refine v_bipush (v := 16) dX12_corner_37 (by decide) ?_
    refine v_icmp_lt (tgt := 52) dX12_corner_39 (by decide) (fun c_39 => ?_) (fun c_39 => ?_)
    · exact absurd ((nI_ltI (b := 16) (by omega) (by omega)).mp c_39) hn
    · exact v_throw (ik := 108) (is := 149) (ic := 112) (cls := "java/lang/IllegalStateException") (text := "no more corners") (names := ["java/lang/RuntimeException", "java/lang/Exception"]) hl0 rfl (by decide +kernel) (by decide +kernel) (by decide +kernel) (by decide +kernel) (by decide +kernel) (by decide +kernel) (by decide +kernel) sv_bwI (by decide +kernel) dX12_corner_42 dX12_corner_45 dX12_corner_46 dX12_corner_48 dX12_corner_51 rfl (Nat.le_of_ble_eq_true rfl) (Nat.le_of_ble_eq_true rfl) (Nat.le_of_ble_eq_true rfl) (Nat.le_of_ble_eq_true rfl) (fun z9 hz9 => ⟨rfl, rfl⟩)
  · exact absurd c_8 (by decide)

set_option maxHeartbeats 4000000 in
set_option maxRecDepth 100000 in
theorem c_corner_a (G : sv_G) (hl0 : G.1.stackTraces = false) (h : sv_h) (z b p a n : Nat) (x y : Int64) (ly tp rd ck wv ru la fo fl lo : Nat) (rc lr lf : Int32) (hb : h b = some (.inr (10, [.ref ly, .ref tp, .ref rd, .ref ck, .ref wv, .ref ru, .int rc, .int lr, .int lf, .ref la, .ref fo, .ref fl, .ref lo]))) (po hd hs mo he nh : Nat) (k cs pn pl : Int32) (hly : h ly = some (.inr (1, [.int k, .int cs, .ref po, .int pn, .ref hd, .ref hs, .ref mo, .int pl, .ref he, .ref nh]))) (hg : 0 ≤ nI p ∧ nI p < pn) (f : Nat → Option Nat) (hpo : h po = some (.inl (G.2.2.1 4, 64, .inr (.inr (.inr (.inr f)))))) (hp64 : p < 64) (hfp : f p = some a) (hm l0 vo rt ar : Int32) (fx fy f3 f4 : Nat → Int32) (hp : h a = some (.inr (3, [.int hm, .int l0, .ref (a + 1), .ref (a + 2), .int (nI n), .int vo, .int rt, .int ar, .ref (a + 3), .ref (a + 4)]))) (hx : ab_I G h (a + 1) 16 fx) (hy : ab_I G h (a + 2) 16 fy) (h3 : ab_I G h (a + 3) 16 f3) (h4 : ab_I G h (a + 4) 16 f4) (hn : n < 16) (hc : ¬ ((¬ x < -10000 ∧ x ≤ 10000) ∧ (¬ y < -10000 ∧ y ≤ 10000))) : CX G mX12_corner [.ref b, .int (nI p), .long x, .long y] h z (fun _ _ _ => False) (fun E h1 z1 => E = "java/lang/IllegalArgumentException" ∧ h1 = h) := by
  refine CX.of (by decide +kernel) rfl rfl (Nat.le_of_ble_eq_true rfl) ?_
  refine v_aload_n dX12_corner_0 rfl 0 rfl ?_
  refine v_getf 0 (ci := 10) (C := RX12) (T := TX12) (N := 13) rfl iwX12_corner_X12 (Nat.le_of_ble_eq_true rfl) (by decide +kernel) dX12_corner_1 (by repeat (first | (with_reducible refine sv_us.trans ?_; exact rfl) | with_reducible assumption | with_reducible refine (sv_un (by omega)).trans ?_)) rfl ?_
  refine v_iload_n dX12_corner_4 rfl 1 rfl ?_
  refine v_callV (M' := mX3_hasPolygon) (n := 1) (As := [_]) (ci := 1) (r := (RX3, TX3, 10)) gX12_corner_X3_hasPolygon rfl (by decide +kernel) ⟨(Nat.le_of_ble_eq_true rfl), (Nat.le_of_ble_eq_true rfl)⟩ rfl rfl dX12_corner_5 rfl ⟨(Nat.le_of_ble_eq_true rfl), (Nat.le_of_ble_eq_true rfl)⟩ (Nat.le_of_ble_eq_true rfl) (by repeat (first | (with_reducible refine sv_us.trans ?_; exact rfl) | with_reducible assumption | with_reducible refine (sv_un (by omega)).trans ?_)) rfl (c_hasPolygon G _ _ _ _ _ _ _ _ _ _ _ _ _ _ hly) (fun v h1 z1 hq => ?_)
  rw [if_pos hg] at hq
  obtain ⟨rfl, rfl, rfl⟩ := hq
  refine v_if_ne (tgt := 21) dX12_corner_8 (by decide) (fun c_8 => ?_) (fun c_8 => ?_)
  · refine v_aload_n dX12_corner_21 rfl 0 rfl ?_
    refine v_getf 0 (ci := 10) (C := RX12) (T := TX12) (N := 13) rfl iwX12_corner_X12 (Nat.le_of_ble_eq_true rfl) (by decide +kernel) dX12_corner_22 (by repeat (first | (with_reducible refine sv_us.trans ?_; exact rfl) | with_reducible assumption | with_reducible refine (sv_un (by omega)).trans ?_)) rfl ?_
    refine v_getf 2 (ci := 1) (C := RX3) (T := TX3) (N := 10) rfl iwX12_corner_X3 (Nat.le_of_ble_eq_true rfl) (by decide +kernel) dX12_corner_25 (by repeat (first | (with_reducible refine sv_us.trans ?_; exact rfl) | with_reducible assumption | with_reducible refine (sv_un (by omega)).trans ?_)) rfl ?_
    refine v_iload_n dX12_corner_28 rfl 1 rfl ?_
    refine v_aaldS (t := 4) (q := a) dX12_corner_29 (fun _ => rfl) (by repeat (first | (with_reducible refine sv_us.trans ?_; exact rfl) | with_reducible assumption | with_reducible refine (sv_un (by omega)).trans ?_)) (vp_in_nI hp64 (by omega)) (by rw [nI_clamp (by omega)]; exact hfp) ?_
    refine v_astore (L' := [(6, _), (0, _), (1, _), (2, _), (4, _)]) dX12_corner_30 (Nat.le_of_ble_eq_true rfl) rfl ?_
    refine v_aload dX12_corner_32 0 rfl ?_
    refine v_getf 4 (ci := 3) (C := RX5) (T := TX5) (N := 10) rfl iwX12_corner_X5 (Nat.le_of_ble_eq_true rfl) (by decide +kernel) dX12_corner_34 (by repeat (first | (with_reducible refine sv_us.trans ?_; exact rfl) | with_reducible assumption | with_reducible refine (sv_un (by omega)).trans ?_)) rfl ?_
    refine v_bipush (v := 16) dX12_corner_37 (by decide) ?_
    refine v_icmp_lt (tgt := 52) dX12_corner_39 (by decide) (fun c_39 => ?_) (fun c_39 => ?_)
    · refine v_lload_n dX12_corner_52 rfl 3 rfl ?_
      refine v_callS (M' := mX12_isCoordinate) (n := 1) (As := [_]) ggX12_corner_X12_isCoordinate (by decide +kernel) (by decide +kernel) (by decide +kernel) rfl (by decide +kernel) ⟨(Nat.le_of_ble_eq_true rfl), (Nat.le_of_ble_eq_true rfl)⟩ dX12_corner_53 rfl ⟨(Nat.le_of_ble_eq_true rfl), (Nat.le_of_ble_eq_true rfl)⟩ (Nat.le_of_ble_eq_true rfl) rfl (c_isCoord G _ _ x) (fun v h1 z1 hq => ?_)
      obtain ⟨rfl, rfl, rfl⟩ := hq
      refine v_if_eq (tgt := 67) dX12_corner_56 (by decide) (fun c_56 => ?_) (fun c_56 => ?_)
      · exact v_throw (ik := 155) (is := 157) (ic := 159) (cls := "java/lang/IllegalArgumentException") (text := "a corner too far out") (names := ["java/lang/RuntimeException", "java/lang/Exception"]) hl0 rfl (by decide +kernel) (by decide +kernel) (by decide +kernel) (by decide +kernel) (by decide +kernel) (by decide +kernel) (by decide +kernel) sv_bwA (by decide +kernel) dX12_corner_67 dX12_corner_70 dX12_corner_71 dX12_corner_73 dX12_corner_76 rfl (Nat.le_of_ble_eq_true rfl) (Nat.le_of_ble_eq_true rfl) (Nat.le_of_ble_eq_true rfl) (Nat.le_of_ble_eq_true rfl) (fun z9 hz9 => ⟨rfl, rfl⟩)
      · refine v_lload dX12_corner_59 4 rfl ?_
        refine v_callS (M' := mX12_isCoordinate) (n := 1) (As := [_]) ggX12_corner_X12_isCoordinate (by decide +kernel) (by decide +kernel) (by decide +kernel) rfl (by decide +kernel) ⟨(Nat.le_of_ble_eq_true rfl), (Nat.le_of_ble_eq_true rfl)⟩ dX12_corner_61 rfl ⟨(Nat.le_of_ble_eq_true rfl), (Nat.le_of_ble_eq_true rfl)⟩ (Nat.le_of_ble_eq_true rfl) rfl (c_isCoord G _ _ y) (fun v h1 z1 hq => ?_)
        obtain ⟨rfl, rfl, rfl⟩ := hq
        refine v_if_ne (tgt := 77) dX12_corner_64 (by decide) (fun c_64 => ?_) (fun c_64 => ?_)
        · exact absurd ⟨sv_ifn c_56, sv_ifn c_64⟩ hc
        · exact v_throw (ik := 155) (is := 157) (ic := 159) (cls := "java/lang/IllegalArgumentException") (text := "a corner too far out") (names := ["java/lang/RuntimeException", "java/lang/Exception"]) hl0 rfl (by decide +kernel) (by decide +kernel) (by decide +kernel) (by decide +kernel) (by decide +kernel) (by decide +kernel) (by decide +kernel) sv_bwA (by decide +kernel) dX12_corner_67 dX12_corner_70 dX12_corner_71 dX12_corner_73 dX12_corner_76 rfl (Nat.le_of_ble_eq_true rfl) (Nat.le_of_ble_eq_true rfl) (Nat.le_of_ble_eq_true rfl) (Nat.le_of_ble_eq_true rfl) (fun z9 hz9 => ⟨rfl, rfl⟩)
    · exact absurd (nI_lt (b := 16) hn (by omega)) c_39
  · exact absurd c_8 (by decide)

theorem sv_16 (p n : Nat) : (16 : Int32) * nI p + nI n = nI (16 * p + n) := by rw [show (16 : Int32) = nI 16 from rfl, sv_nm2, nI_add]
theorem sv_16p {p n : Nat} (h : 0 < n) : (16 : Int32) * nI p + nI n - 1 = nI (16 * p + (n - 1)) := by
  rw [sv_16, sv_prd (by omega)]
  congr 1
  omega
set_option maxHeartbeats 4000000 in
set_option maxRecDepth 100000 in
theorem m_corner (G : sv_G) (h : sv_h) (z b : Nat) (fs : List Value) (k : Int32) (nc np pl tn nr nl : Nat) (lq lf : Int32) (nw : Nat) (gfs : ab_fs b k nc np pl tn nr nl lq lf nw fs) (hm : h (b + 220) = some (.inr (11, fs))) (p n : Nat) (x y : Int64) (gs : Nat → Int32) (gx gy : Nat → Int64) (hgs : ab_I G h (b + 224) 64 gs) (hgx : ab_J G h (b + 225) 1024 gx) (hgy : ab_J G h (b + 226) 1024 gy) (hg : 0 ≤ nI p ∧ nI p < nI np) (hp64 : p < 64) (hsn : gs p = nI n) (hn16 : n ≤ 16) (hn : n < 16) (hcx : (¬ x < -10000 ∧ x ≤ 10000)) (hcy : (¬ y < -10000 ∧ y ≤ 10000)) : CT G mX13_corner [.ref (b + 220), .int (nI p), .long x, .long y] h z (fun v h1 z1 => ∃ w : Int32, v = some (.int w) ∧ z1 = z ∧ ((w = 0 ∧ (0 < n ∧ (gx (16 * p + (n - 1)) = x ↔ gy (16 * p + (n - 1)) = y)) ∧ h1 = va_up h (b + 220) (some (.inr (11, fs.set 0 (.int 0))))) ∨ (w = 1 ∧ ¬ (0 < n ∧ (gx (16 * p + (n - 1)) = x ↔ gy (16 * p + (n - 1)) = y)) ∧ h1 (b + 220) = some (.inr (11, fs.set 0 (.int 0))) ∧ ab_I G h1 (b + 224) 64 (upd gs p (nI n + 1)) ∧ ab_J G h1 (b + 225) 1024 (vp_updL gx (16 * p + n) x) ∧ ab_J G h1 (b + 226) 1024 (vp_updL gy (16 * p + n) y) ∧ ∀ w, w ≠ b + 220 → w ≠ b + 224 → w ≠ b + 225 → w ≠ b + 226 → h1 w = h w))) := by
  refine CT.of (by decide +kernel) rfl rfl (Nat.le_of_ble_eq_true rfl) ?_
  have hlen := gfs.1
  have f_polygons := gfs.f_polygons
  have f_size := gfs.f_size
  have f_px := gfs.f_px
  have f_py := gfs.f_py
  refine v_aload_n dX13_corner_0 rfl 0 rfl ?_
  refine v_aload_n dX13_corner_1 rfl 0 rfl ?_
  refine v_iload_n dX13_corner_2 rfl 1 rfl ?_
  refine v_callV (M' := mX13_isPolygon) (n := 1) (As := [_]) (ci := 11) (r := (RX13, TX13, 71)) gX13_corner_X13_isPolygon rfl (by decide +kernel) ⟨(Nat.le_of_ble_eq_true rfl), (Nat.le_of_ble_eq_true rfl)⟩ rfl rfl dX13_corner_3 rfl ⟨(Nat.le_of_ble_eq_true rfl), (Nat.le_of_ble_eq_true rfl)⟩ (Nat.le_of_ble_eq_true rfl) (by repeat (first | (with_reducible refine sv_us.trans ?_; exact rfl) | with_reducible assumption | with_reducible refine (sv_un (by omega)).trans ?_)) rfl (m_isPolygon G _ _ _ _ hlen hm _ _ f_polygons) (fun v h1 z1 hq => ?_)
  rw [if_pos hg] at hq
  obtain ⟨rfl, rfl, rfl⟩ := hq
  refine v_if_ne (tgt := 13) dX13_corner_6 (by decide) (fun c_6 => ?_) (fun c_6 => ?_)
  · refine v_aload_n dX13_corner_13 rfl 0 rfl ?_
    refine v_getf 7 (ci := 11) (C := RX13) (T := TX13) (N := 71) rfl iwX13_corner_X13 (Nat.le_of_ble_eq_true rfl) (by decide +kernel) dX13_corner_14 (by repeat (first | (with_reducible refine sv_us.trans ?_; exact rfl) | with_reducible assumption | with_reducible refine (sv_un (by omega)).trans ?_)) (by repeat (first | with_reducible assumption | (with_reducible refine (sv_ls (by first | omega | (simp only [List.length_set]; omega))).trans ?_; exact rfl) | with_reducible refine (List.getElem?_set_ne (by decide)).trans ?_)) ?_
    refine v_iload_n dX13_corner_17 rfl 1 rfl ?_
    refine v_ialdS (v := nI n) dX13_corner_18 (by repeat (first | (with_reducible refine sv_us.trans ?_; exact rfl) | with_reducible assumption | with_reducible refine (sv_un (by omega)).trans ?_)) (vp_in_nI hp64 (by omega)) (by rw [nI_clamp (by omega)]; exact hsn) ?_
    refine v_bipush (v := 16) dX13_corner_19 (by decide) ?_
    refine v_icmp_ne (tgt := 28) dX13_corner_21 (by decide) (fun c_21 => ?_) (fun c_21 => ?_)
    · refine v_lload_n dX13_corner_28 rfl 2 rfl ?_
      refine v_callS (M' := mX13_isIn) (n := 1) (As := [_]) ggX13_corner_X13_isIn (by decide +kernel) (by decide +kernel) (by decide +kernel) rfl (by decide +kernel) ⟨(Nat.le_of_ble_eq_true rfl), (Nat.le_of_ble_eq_true rfl)⟩ dX13_corner_29 rfl ⟨(Nat.le_of_ble_eq_true rfl), (Nat.le_of_ble_eq_true rfl)⟩ (Nat.le_of_ble_eq_true rfl) rfl (m_isIn G _ _ x) (fun v h1 z1 hq => ?_)
      rw [if_pos hcx] at hq
      obtain ⟨rfl, rfl, rfl⟩ := hq
      refine v_if_eq (tgt := 47) dX13_corner_32 (by decide) (fun c_32 => ?_) (fun c_32 => ?_)
      · exact absurd c_32 (by decide)
      · refine v_lload dX13_corner_35 3 rfl ?_
        refine v_callS (M' := mX13_isIn) (n := 1) (As := [_]) ggX13_corner_X13_isIn (by decide +kernel) (by decide +kernel) (by decide +kernel) rfl (by decide +kernel) ⟨(Nat.le_of_ble_eq_true rfl), (Nat.le_of_ble_eq_true rfl)⟩ dX13_corner_37 rfl ⟨(Nat.le_of_ble_eq_true rfl), (Nat.le_of_ble_eq_true rfl)⟩ (Nat.le_of_ble_eq_true rfl) rfl (m_isIn G _ _ y) (fun v h1 z1 hq => ?_)
        rw [if_pos hcy] at hq
        obtain ⟨rfl, rfl, rfl⟩ := hq
        refine v_if_eq (tgt := 47) dX13_corner_40 (by decide) (fun c_40 => ?_) (fun c_40 => ?_)
        · exact absurd c_40 (by decide)
        · refine v_iconst (v := 0) dX13_corner_43 (by decide) ?_
          refine v_goto (tgt := 48) dX13_corner_44 (by decide) ?_
          refine v_putf 0 (fs' := _) (ci := 11) (C := RX13) (T := TX13) (N := 71) (ty := .int) rfl iwX13_corner_X13 tyX13 tyX13_ok nmX13 (Nat.le_of_ble_eq_true rfl) (by decide +kernel) rfl rfl dX13_corner_48 rfl rfl (by repeat (first | (with_reducible refine sv_us.trans ?_; exact rfl) | with_reducible assumption | with_reducible refine (sv_un (by omega)).trans ?_)) (by first | omega | (simp only [List.length_set]; omega)) rfl ?_
          refine v_aload_n dX13_corner_51 rfl 0 rfl ?_
          refine v_getf 0 (ci := 11) (C := RX13) (T := TX13) (N := 71) rfl iwX13_corner_X13 (Nat.le_of_ble_eq_true rfl) (by decide +kernel) dX13_corner_52 (by repeat (first | (with_reducible refine sv_us.trans ?_; exact rfl) | with_reducible assumption | with_reducible refine (sv_un (by omega)).trans ?_)) (by repeat (first | with_reducible assumption | (with_reducible refine (sv_ls (by first | omega | (simp only [List.length_set]; omega))).trans ?_; exact rfl) | with_reducible refine (List.getElem?_set_ne (by decide)).trans ?_)) ?_
          refine v_if_le (tgt := 60) dX13_corner_55 (by decide) (fun c_55 => ?_) (fun c_55 => ?_)
          · refine v_bipush (v := 16) dX13_corner_60 (by decide) ?_
            refine v_iload_n dX13_corner_62 rfl 1 rfl ?_
            refine v_imul dX13_corner_63 ?_
            refine v_aload_n dX13_corner_64 rfl 0 rfl ?_
            refine v_getf 7 (ci := 11) (C := RX13) (T := TX13) (N := 71) rfl iwX13_corner_X13 (Nat.le_of_ble_eq_true rfl) (by decide +kernel) dX13_corner_65 (by repeat (first | (with_reducible refine sv_us.trans ?_; exact rfl) | with_reducible assumption | with_reducible refine (sv_un (by omega)).trans ?_)) (by repeat (first | with_reducible assumption | (with_reducible refine (sv_ls (by first | omega | (simp only [List.length_set]; omega))).trans ?_; exact rfl) | with_reducible refine (List.getElem?_set_ne (by decide)).trans ?_)) ?_
            refine v_iload_n dX13_corner_68 rfl 1 rfl ?_
            refine v_ialdS (v := nI n) dX13_corner_69 (by repeat (first | (with_reducible refine sv_us.trans ?_; exact rfl) | with_reducible assumption | with_reducible refine (sv_un (by omega)).trans ?_)) (vp_in_nI hp64 (by omega)) (by rw [nI_clamp (by omega)]; exact hsn) ?_
            refine v_iadd dX13_corner_70 ?_
            refine v_istore (L' := [(6, _), (0, _), (1, _), (2, _), (4, _)]) dX13_corner_71 (Nat.le_of_ble_eq_true rfl) rfl ?_
            refine v_aload_n dX13_corner_73 rfl 1 rfl ?_
            refine v_getf 7 (ci := 11) (C := RX13) (T := TX13) (N := 71) rfl iwX13_corner_X13 (Nat.le_of_ble_eq_true rfl) (by decide +kernel) dX13_corner_74 (by repeat (first | (with_reducible refine sv_us.trans ?_; exact rfl) | with_reducible assumption | with_reducible refine (sv_un (by omega)).trans ?_)) (by repeat (first | with_reducible assumption | (with_reducible refine (sv_ls (by first | omega | (simp only [List.length_set]; omega))).trans ?_; exact rfl) | with_reducible refine (List.getElem?_set_ne (by decide)).trans ?_)) ?_
            refine v_iload_n dX13_corner_77 rfl 2 rfl ?_
            refine v_ialdS (v := nI n) dX13_corner_78 (by repeat (first | (with_reducible refine sv_us.trans ?_; exact rfl) | with_reducible assumption | with_reducible refine (sv_un (by omega)).trans ?_)) (vp_in_nI hp64 (by omega)) (by rw [nI_clamp (by omega)]; exact hsn) ?_
            refine v_if_le (tgt := 126) dX13_corner_79 (by decide) (fun c_79 => ?_) (fun c_79 => ?_)
            · refine v_aload_n dX13_corner_126 rfl 1 rfl ?_
              refine v_getf 8 (ci := 11) (C := RX13) (T := TX13) (N := 71) rfl iwX13_corner_X13 (Nat.le_of_ble_eq_true rfl) (by decide +kernel) dX13_corner_127 (by repeat (first | (with_reducible refine sv_us.trans ?_; exact rfl) | with_reducible assumption | with_reducible refine (sv_un (by omega)).trans ?_)) (by repeat (first | with_reducible assumption | (with_reducible refine (sv_ls (by first | omega | (simp only [List.length_set]; omega))).trans ?_; exact rfl) | with_reducible refine (List.getElem?_set_ne (by decide)).trans ?_)) ?_
              refine v_iload dX13_corner_130 0 rfl ?_
              refine v_lload_n dX13_corner_132 rfl 3 rfl ?_
              refine v_last dX13_corner_133 (by repeat (first | (with_reducible refine sv_us.trans ?_; exact rfl) | with_reducible assumption | with_reducible refine (sv_un (by omega)).trans ?_)) (by rw [sv_16]; exact vp_in_nI (by omega) (by omega)) ?_
              refine v_aload_n dX13_corner_134 rfl 1 rfl ?_
              refine v_getf 9 (ci := 11) (C := RX13) (T := TX13) (N := 71) rfl iwX13_corner_X13 (Nat.le_of_ble_eq_true rfl) (by decide +kernel) dX13_corner_135 (by repeat (first | (with_reducible refine sv_us.trans ?_; exact rfl) | with_reducible assumption | with_reducible refine (sv_un (by omega)).trans ?_)) (by repeat (first | with_reducible assumption | (with_reducible refine (sv_ls (by first | omega | (simp only [List.length_set]; omega))).trans ?_; exact rfl) | with_reducible refine (List.getElem?_set_ne (by decide)).trans ?_)) ?_
              refine v_iload dX13_corner_138 0 rfl ?_
              refine v_lload dX13_corner_140 4 rfl ?_
              refine v_last dX13_corner_142 (by repeat (first | (with_reducible refine sv_us.trans ?_; exact rfl) | with_reducible assumption | with_reducible refine (sv_un (by omega)).trans ?_)) (by rw [sv_16]; exact vp_in_nI (by omega) (by omega)) ?_
              refine v_aload_n dX13_corner_143 rfl 1 rfl ?_
              refine v_getf 7 (ci := 11) (C := RX13) (T := TX13) (N := 71) rfl iwX13_corner_X13 (Nat.le_of_ble_eq_true rfl) (by decide +kernel) dX13_corner_144 (by repeat (first | (with_reducible refine sv_us.trans ?_; exact rfl) | with_reducible assumption | with_reducible refine (sv_un (by omega)).trans ?_)) (by repeat (first | with_reducible assumption | (with_reducible refine (sv_ls (by first | omega | (simp only [List.length_set]; omega))).trans ?_; exact rfl) | with_reducible refine (List.getElem?_set_ne (by decide)).trans ?_)) ?_
              refine v_iload_n dX13_corner_147 rfl 2 rfl ?_
              refine v_dup2_11 dX13_corner_148 rfl rfl ?_
              refine v_ialdS (v := nI n) dX13_corner_149 (by repeat (first | (with_reducible refine sv_us.trans ?_; exact rfl) | with_reducible assumption | with_reducible refine (sv_un (by omega)).trans ?_)) (vp_in_nI hp64 (by omega)) (by rw [nI_clamp (by omega)]; exact hsn) ?_
              refine v_iconst (v := 1) dX13_corner_150 (by decide) ?_
              refine v_iadd dX13_corner_151 ?_
              refine v_iast dX13_corner_152 (by repeat (first | (with_reducible refine sv_us.trans ?_; exact rfl) | with_reducible assumption | with_reducible refine (sv_un (by omega)).trans ?_)) (vp_in_nI hp64 (by omega)) ?_
              refine v_iconst (v := 1) dX13_corner_153 (by decide) ?_
              exact v_iret rfl dX13_corner_154 (Nat.le_of_ble_eq_true rfl) (Nat.le_of_ble_eq_true rfl) rfl (by
      have ecl : ((16 : Int32) * nI p + nI n).toNatClampNeg = 16 * p + n := by rw [sv_16, nI_clamp (by omega)]
      have ecp : (nI p).toNatClampNeg = p := nI_clamp (by omega)
      rw [ecl, ecp]
      exact ⟨1, rfl, rfl, Or.inr ⟨rfl, (by first | exact fun q => absurd q.1 (sv_n0 hn c_79) | exact absurd rfl c_121 | exact fun q => c_113 (q.2.mp c_93) | exact fun q => c_93 (q.2.mpr c_113)), (by repeat (first | with_reducible assumption | with_reducible exact sv_us | with_reducible refine (sv_un (by omega)).trans ?_)), (by repeat (first | with_reducible assumption | with_reducible exact sv_us | with_reducible refine (sv_un (by omega)).trans ?_)), (by repeat (first | with_reducible assumption | with_reducible exact sv_us | with_reducible refine (sv_un (by omega)).trans ?_)), (by repeat (first | with_reducible assumption | with_reducible exact sv_us | with_reducible refine (sv_un (by omega)).trans ?_)), (fun w q1 q2 q3 q4 => by repeat (first | with_reducible rfl | with_reducible refine (sv_un (by assumption)).trans ?_))⟩⟩)
            · refine v_aload_n dX13_corner_82 rfl 1 rfl ?_
              refine v_getf 8 (ci := 11) (C := RX13) (T := TX13) (N := 71) rfl iwX13_corner_X13 (Nat.le_of_ble_eq_true rfl) (by decide +kernel) dX13_corner_83 (by repeat (first | (with_reducible refine sv_us.trans ?_; exact rfl) | with_reducible assumption | with_reducible refine (sv_un (by omega)).trans ?_)) (by repeat (first | with_reducible assumption | (with_reducible refine (sv_ls (by first | omega | (simp only [List.length_set]; omega))).trans ?_; exact rfl) | with_reducible refine (List.getElem?_set_ne (by decide)).trans ?_)) ?_
              refine v_iload dX13_corner_86 0 rfl ?_
              refine v_iconst (v := 1) dX13_corner_88 (by decide) ?_
              refine v_isub dX13_corner_89 ?_
              refine v_laldS (v := gx (16 * p + (n - 1))) dX13_corner_90 (by repeat (first | (with_reducible refine sv_us.trans ?_; exact rfl) | with_reducible assumption | with_reducible refine (sv_un (by omega)).trans ?_)) (by rw [sv_16p (sv_p0 hn c_79)]; exact vp_in_nI (by omega) (by omega)) (by rw [sv_16p (sv_p0 hn c_79), nI_clamp (by omega)]) ?_
              refine v_lload_n dX13_corner_91 rfl 3 rfl ?_
              refine v_lcmp_ne (tgt := 100) dX13_corner_92 dX13_corner_93 (by decide) (fun c_93 => ?_) (fun c_93 => ?_)
              · refine v_iconst (v := 0) dX13_corner_100 (by decide) ?_
                refine v_aload_n dX13_corner_101 rfl 1 rfl ?_
                refine v_getf 9 (ci := 11) (C := RX13) (T := TX13) (N := 71) rfl iwX13_corner_X13 (Nat.le_of_ble_eq_true rfl) (by decide +kernel) dX13_corner_102 (by repeat (first | (with_reducible refine sv_us.trans ?_; exact rfl) | with_reducible assumption | with_reducible refine (sv_un (by omega)).trans ?_)) (by repeat (first | with_reducible assumption | (with_reducible refine (sv_ls (by first | omega | (simp only [List.length_set]; omega))).trans ?_; exact rfl) | with_reducible refine (List.getElem?_set_ne (by decide)).trans ?_)) ?_
                refine v_iload dX13_corner_105 0 rfl ?_
                refine v_iconst (v := 1) dX13_corner_107 (by decide) ?_
                refine v_isub dX13_corner_108 ?_
                refine v_laldS (v := gy (16 * p + (n - 1))) dX13_corner_109 (by repeat (first | (with_reducible refine sv_us.trans ?_; exact rfl) | with_reducible assumption | with_reducible refine (sv_un (by omega)).trans ?_)) (by rw [sv_16p (sv_p0 hn c_79)]; exact vp_in_nI (by omega) (by omega)) (by rw [sv_16p (sv_p0 hn c_79), nI_clamp (by omega)]) ?_
                refine v_lload dX13_corner_110 4 rfl ?_
                refine v_lcmp_ne (tgt := 120) dX13_corner_112 dX13_corner_113 (by decide) (fun c_113 => ?_) (fun c_113 => ?_)
                · refine v_iconst (v := 0) dX13_corner_120 (by decide) ?_
                  refine v_icmp_ne (tgt := 126) dX13_corner_121 (by decide) (fun c_121 => ?_) (fun c_121 => ?_)
                  · refine v_aload_n dX13_corner_126 rfl 1 rfl ?_
                    refine v_getf 8 (ci := 11) (C := RX13) (T := TX13) (N := 71) rfl iwX13_corner_X13 (Nat.le_of_ble_eq_true rfl) (by decide +kernel) dX13_corner_127 (by repeat (first | (with_reducible refine sv_us.trans ?_; exact rfl) | with_reducible assumption | with_reducible refine (sv_un (by omega)).trans ?_)) (by repeat (first | with_reducible assumption | (with_reducible refine (sv_ls (by first | omega | (simp only [List.length_set]; omega))).trans ?_; exact rfl) | with_reducible refine (List.getElem?_set_ne (by decide)).trans ?_)) ?_
                    refine v_iload dX13_corner_130 0 rfl ?_
                    refine v_lload_n dX13_corner_132 rfl 3 rfl ?_
                    refine v_last dX13_corner_133 (by repeat (first | (with_reducible refine sv_us.trans ?_; exact rfl) | with_reducible assumption | with_reducible refine (sv_un (by omega)).trans ?_)) (by rw [sv_16]; exact vp_in_nI (by omega) (by omega)) ?_
                    refine v_aload_n dX13_corner_134 rfl 1 rfl ?_
                    refine v_getf 9 (ci := 11) (C := RX13) (T := TX13) (N := 71) rfl iwX13_corner_X13 (Nat.le_of_ble_eq_true rfl) (by decide +kernel) dX13_corner_135 (by repeat (first | (with_reducible refine sv_us.trans ?_; exact rfl) | with_reducible assumption | with_reducible refine (sv_un (by omega)).trans ?_)) (by repeat (first | with_reducible assumption | (with_reducible refine (sv_ls (by first | omega | (simp only [List.length_set]; omega))).trans ?_; exact rfl) | with_reducible refine (List.getElem?_set_ne (by decide)).trans ?_)) ?_
                    refine v_iload dX13_corner_138 0 rfl ?_
                    refine v_lload dX13_corner_140 4 rfl ?_
                    refine v_last dX13_corner_142 (by repeat (first | (with_reducible refine sv_us.trans ?_; exact rfl) | with_reducible assumption | with_reducible refine (sv_un (by omega)).trans ?_)) (by rw [sv_16]; exact vp_in_nI (by omega) (by omega)) ?_
                    refine v_aload_n dX13_corner_143 rfl 1 rfl ?_
                    refine v_getf 7 (ci := 11) (C := RX13) (T := TX13) (N := 71) rfl iwX13_corner_X13 (Nat.le_of_ble_eq_true rfl) (by decide +kernel) dX13_corner_144 (by repeat (first | (with_reducible refine sv_us.trans ?_; exact rfl) | with_reducible assumption | with_reducible refine (sv_un (by omega)).trans ?_)) (by repeat (first | with_reducible assumption | (with_reducible refine (sv_ls (by first | omega | (simp only [List.length_set]; omega))).trans ?_; exact rfl) | with_reducible refine (List.getElem?_set_ne (by decide)).trans ?_)) ?_
                    refine v_iload_n dX13_corner_147 rfl 2 rfl ?_
                    refine v_dup2_11 dX13_corner_148 rfl rfl ?_
                    refine v_ialdS (v := nI n) dX13_corner_149 (by repeat (first | (with_reducible refine sv_us.trans ?_; exact rfl) | with_reducible assumption | with_reducible refine (sv_un (by omega)).trans ?_)) (vp_in_nI hp64 (by omega)) (by rw [nI_clamp (by omega)]; exact hsn) ?_
                    refine v_iconst (v := 1) dX13_corner_150 (by decide) ?_
                    refine v_iadd dX13_corner_151 ?_
                    refine v_iast dX13_corner_152 (by repeat (first | (with_reducible refine sv_us.trans ?_; exact rfl) | with_reducible assumption | with_reducible refine (sv_un (by omega)).trans ?_)) (vp_in_nI hp64 (by omega)) ?_
                    refine v_iconst (v := 1) dX13_corner_153 (by decide) ?_
                    exact v_iret rfl dX13_corner_154 (Nat.le_of_ble_eq_true rfl) (Nat.le_of_ble_eq_true rfl) rfl (by
      have ecl : ((16 : Int32) * nI p + nI n).toNatClampNeg = 16 * p + n := by rw [sv_16, nI_clamp (by omega)]
      have ecp : (nI p).toNatClampNeg = p := nI_clamp (by omega)
      rw [ecl, ecp]
      exact ⟨1, rfl, rfl, Or.inr ⟨rfl, (by first | exact fun q => absurd q.1 (sv_n0 hn c_79) | exact absurd rfl c_121 | exact fun q => c_113 (q.2.mp c_93) | exact fun q => c_93 (q.2.mpr c_113)), (by repeat (first | with_reducible assumption | with_reducible exact sv_us | with_reducible refine (sv_un (by omega)).trans ?_)), (by repeat (first | with_reducible assumption | with_reducible exact sv_us | with_reducible refine (sv_un (by omega)).trans ?_)), (by repeat (first | with_reducible assumption | with_reducible exact sv_us | with_reducible refine (sv_un (by omega)).trans ?_)), (by repeat (first | with_reducible assumption | with_reducible exact sv_us | with_reducible refine (sv_un (by omega)).trans ?_)), (fun w q1 q2 q3 q4 => by repeat (first | with_reducible rfl | with_reducible refine (sv_un (by assumption)).trans ?_))⟩⟩)
                  · refine v_iconst (v := 0) dX13_corner_124 (by decide) ?_
                    exact v_iret rfl dX13_corner_125 (Nat.le_of_ble_eq_true rfl) (Nat.le_of_ble_eq_true rfl) rfl ⟨0, rfl, rfl, Or.inl ⟨rfl, ⟨sv_p0 hn c_79, (by first | exact absurd c_121 (by decide) | exact ⟨fun _ => c_113, fun _ => c_93⟩ | exact ⟨fun q => absurd q c_93, fun q => absurd q c_113⟩)⟩, rfl⟩⟩
                · refine v_iconst (v := 1) dX13_corner_116 (by decide) ?_
                  refine v_goto (tgt := 121) dX13_corner_117 (by decide) ?_
                  refine v_icmp_ne (tgt := 126) dX13_corner_121 (by decide) (fun c_121 => ?_) (fun c_121 => ?_)
                  · refine v_aload_n dX13_corner_126 rfl 1 rfl ?_
                    refine v_getf 8 (ci := 11) (C := RX13) (T := TX13) (N := 71) rfl iwX13_corner_X13 (Nat.le_of_ble_eq_true rfl) (by decide +kernel) dX13_corner_127 (by repeat (first | (with_reducible refine sv_us.trans ?_; exact rfl) | with_reducible assumption | with_reducible refine (sv_un (by omega)).trans ?_)) (by repeat (first | with_reducible assumption | (with_reducible refine (sv_ls (by first | omega | (simp only [List.length_set]; omega))).trans ?_; exact rfl) | with_reducible refine (List.getElem?_set_ne (by decide)).trans ?_)) ?_
                    refine v_iload dX13_corner_130 0 rfl ?_
                    refine v_lload_n dX13_corner_132 rfl 3 rfl ?_
                    refine v_last dX13_corner_133 (by repeat (first | (with_reducible refine sv_us.trans ?_; exact rfl) | with_reducible assumption | with_reducible refine (sv_un (by omega)).trans ?_)) (by rw [sv_16]; exact vp_in_nI (by omega) (by omega)) ?_
                    refine v_aload_n dX13_corner_134 rfl 1 rfl ?_
                    refine v_getf 9 (ci := 11) (C := RX13) (T := TX13) (N := 71) rfl iwX13_corner_X13 (Nat.le_of_ble_eq_true rfl) (by decide +kernel) dX13_corner_135 (by repeat (first | (with_reducible refine sv_us.trans ?_; exact rfl) | with_reducible assumption | with_reducible refine (sv_un (by omega)).trans ?_)) (by repeat (first | with_reducible assumption | (with_reducible refine (sv_ls (by first | omega | (simp only [List.length_set]; omega))).trans ?_; exact rfl) | with_reducible refine (List.getElem?_set_ne (by decide)).trans ?_)) ?_
                    refine v_iload dX13_corner_138 0 rfl ?_
                    refine v_lload dX13_corner_140 4 rfl ?_
                    refine v_last dX13_corner_142 (by repeat (first | (with_reducible refine sv_us.trans ?_; exact rfl) | with_reducible assumption | with_reducible refine (sv_un (by omega)).trans ?_)) (by rw [sv_16]; exact vp_in_nI (by omega) (by omega)) ?_
                    refine v_aload_n dX13_corner_143 rfl 1 rfl ?_
                    refine v_getf 7 (ci := 11) (C := RX13) (T := TX13) (N := 71) rfl iwX13_corner_X13 (Nat.le_of_ble_eq_true rfl) (by decide +kernel) dX13_corner_144 (by repeat (first | (with_reducible refine sv_us.trans ?_; exact rfl) | with_reducible assumption | with_reducible refine (sv_un (by omega)).trans ?_)) (by repeat (first | with_reducible assumption | (with_reducible refine (sv_ls (by first | omega | (simp only [List.length_set]; omega))).trans ?_; exact rfl) | with_reducible refine (List.getElem?_set_ne (by decide)).trans ?_)) ?_
                    refine v_iload_n dX13_corner_147 rfl 2 rfl ?_
                    refine v_dup2_11 dX13_corner_148 rfl rfl ?_
                    refine v_ialdS (v := nI n) dX13_corner_149 (by repeat (first | (with_reducible refine sv_us.trans ?_; exact rfl) | with_reducible assumption | with_reducible refine (sv_un (by omega)).trans ?_)) (vp_in_nI hp64 (by omega)) (by rw [nI_clamp (by omega)]; exact hsn) ?_
                    refine v_iconst (v := 1) dX13_corner_150 (by decide) ?_
                    refine v_iadd dX13_corner_151 ?_
                    refine v_iast dX13_corner_152 (by repeat (first | (with_reducible refine sv_us.trans ?_; exact rfl) | with_reducible assumption | with_reducible refine (sv_un (by omega)).trans ?_)) (vp_in_nI hp64 (by omega)) ?_
                    refine v_iconst (v := 1) dX13_corner_153 (by decide) ?_
                    exact v_iret rfl dX13_corner_154 (Nat.le_of_ble_eq_true rfl) (Nat.le_of_ble_eq_true rfl) rfl (by
      have ecl : ((16 : Int32) * nI p + nI n).toNatClampNeg = 16 * p + n := by rw [sv_16, nI_clamp (by omega)]
      have ecp : (nI p).toNatClampNeg = p := nI_clamp (by omega)
      rw [ecl, ecp]
      exact ⟨1, rfl, rfl, Or.inr ⟨rfl, (by first | exact fun q => absurd q.1 (sv_n0 hn c_79) | exact absurd rfl c_121 | exact fun q => c_113 (q.2.mp c_93) | exact fun q => c_93 (q.2.mpr c_113)), (by repeat (first | with_reducible assumption | with_reducible exact sv_us | with_reducible refine (sv_un (by omega)).trans ?_)), (by repeat (first | with_reducible assumption | with_reducible exact sv_us | with_reducible refine (sv_un (by omega)).trans ?_)), (by repeat (first | with_reducible assumption | with_reducible exact sv_us | with_reducible refine (sv_un (by omega)).trans ?_)), (by repeat (first | with_reducible assumption | with_reducible exact sv_us | with_reducible refine (sv_un (by omega)).trans ?_)), (fun w q1 q2 q3 q4 => by repeat (first | with_reducible rfl | with_reducible refine (sv_un (by assumption)).trans ?_))⟩⟩)
                  · refine v_iconst (v := 0) dX13_corner_124 (by decide) ?_
                    exact v_iret rfl dX13_corner_125 (Nat.le_of_ble_eq_true rfl) (Nat.le_of_ble_eq_true rfl) rfl ⟨0, rfl, rfl, Or.inl ⟨rfl, ⟨sv_p0 hn c_79, (by first | exact absurd c_121 (by decide) | exact ⟨fun _ => c_113, fun _ => c_93⟩ | exact ⟨fun q => absurd q c_93, fun q => absurd q c_113⟩)⟩, rfl⟩⟩
              · refine v_iconst (v := 1) dX13_corner_96 (by decide) ?_
                refine v_goto (tgt := 101) dX13_corner_97 (by decide) ?_
                refine v_aload_n dX13_corner_101 rfl 1 rfl ?_
                refine v_getf 9 (ci := 11) (C := RX13) (T := TX13) (N := 71) rfl iwX13_corner_X13 (Nat.le_of_ble_eq_true rfl) (by decide +kernel) dX13_corner_102 (by repeat (first | (with_reducible refine sv_us.trans ?_; exact rfl) | with_reducible assumption | with_reducible refine (sv_un (by omega)).trans ?_)) (by repeat (first | with_reducible assumption | (with_reducible refine (sv_ls (by first | omega | (simp only [List.length_set]; omega))).trans ?_; exact rfl) | with_reducible refine (List.getElem?_set_ne (by decide)).trans ?_)) ?_
                refine v_iload dX13_corner_105 0 rfl ?_
                refine v_iconst (v := 1) dX13_corner_107 (by decide) ?_
                refine v_isub dX13_corner_108 ?_
                refine v_laldS (v := gy (16 * p + (n - 1))) dX13_corner_109 (by repeat (first | (with_reducible refine sv_us.trans ?_; exact rfl) | with_reducible assumption | with_reducible refine (sv_un (by omega)).trans ?_)) (by rw [sv_16p (sv_p0 hn c_79)]; exact vp_in_nI (by omega) (by omega)) (by rw [sv_16p (sv_p0 hn c_79), nI_clamp (by omega)]) ?_
                refine v_lload dX13_corner_110 4 rfl ?_
                refine v_lcmp_ne (tgt := 120) dX13_corner_112 dX13_corner_113 (by decide) (fun c_113 => ?_) (fun c_113 => ?_)
                · refine v_iconst (v := 0) dX13_corner_120 (by decide) ?_
                  refine v_icmp_ne (tgt := 126) dX13_corner_121 (by decide) (fun c_121 => ?_) (fun c_121 => ?_)
                  · refine v_aload_n dX13_corner_126 rfl 1 rfl ?_
                    refine v_getf 8 (ci := 11) (C := RX13) (T := TX13) (N := 71) rfl iwX13_corner_X13 (Nat.le_of_ble_eq_true rfl) (by decide +kernel) dX13_corner_127 (by repeat (first | (with_reducible refine sv_us.trans ?_; exact rfl) | with_reducible assumption | with_reducible refine (sv_un (by omega)).trans ?_)) (by repeat (first | with_reducible assumption | (with_reducible refine (sv_ls (by first | omega | (simp only [List.length_set]; omega))).trans ?_; exact rfl) | with_reducible refine (List.getElem?_set_ne (by decide)).trans ?_)) ?_
                    refine v_iload dX13_corner_130 0 rfl ?_
                    refine v_lload_n dX13_corner_132 rfl 3 rfl ?_
                    refine v_last dX13_corner_133 (by repeat (first | (with_reducible refine sv_us.trans ?_; exact rfl) | with_reducible assumption | with_reducible refine (sv_un (by omega)).trans ?_)) (by rw [sv_16]; exact vp_in_nI (by omega) (by omega)) ?_
                    refine v_aload_n dX13_corner_134 rfl 1 rfl ?_
                    refine v_getf 9 (ci := 11) (C := RX13) (T := TX13) (N := 71) rfl iwX13_corner_X13 (Nat.le_of_ble_eq_true rfl) (by decide +kernel) dX13_corner_135 (by repeat (first | (with_reducible refine sv_us.trans ?_; exact rfl) | with_reducible assumption | with_reducible refine (sv_un (by omega)).trans ?_)) (by repeat (first | with_reducible assumption | (with_reducible refine (sv_ls (by first | omega | (simp only [List.length_set]; omega))).trans ?_; exact rfl) | with_reducible refine (List.getElem?_set_ne (by decide)).trans ?_)) ?_
                    refine v_iload dX13_corner_138 0 rfl ?_
                    refine v_lload dX13_corner_140 4 rfl ?_
                    refine v_last dX13_corner_142 (by repeat (first | (with_reducible refine sv_us.trans ?_; exact rfl) | with_reducible assumption | with_reducible refine (sv_un (by omega)).trans ?_)) (by rw [sv_16]; exact vp_in_nI (by omega) (by omega)) ?_
                    refine v_aload_n dX13_corner_143 rfl 1 rfl ?_
                    refine v_getf 7 (ci := 11) (C := RX13) (T := TX13) (N := 71) rfl iwX13_corner_X13 (Nat.le_of_ble_eq_true rfl) (by decide +kernel) dX13_corner_144 (by repeat (first | (with_reducible refine sv_us.trans ?_; exact rfl) | with_reducible assumption | with_reducible refine (sv_un (by omega)).trans ?_)) (by repeat (first | with_reducible assumption | (with_reducible refine (sv_ls (by first | omega | (simp only [List.length_set]; omega))).trans ?_; exact rfl) | with_reducible refine (List.getElem?_set_ne (by decide)).trans ?_)) ?_
                    refine v_iload_n dX13_corner_147 rfl 2 rfl ?_
                    refine v_dup2_11 dX13_corner_148 rfl rfl ?_
                    refine v_ialdS (v := nI n) dX13_corner_149 (by repeat (first | (with_reducible refine sv_us.trans ?_; exact rfl) | with_reducible assumption | with_reducible refine (sv_un (by omega)).trans ?_)) (vp_in_nI hp64 (by omega)) (by rw [nI_clamp (by omega)]; exact hsn) ?_
                    refine v_iconst (v := 1) dX13_corner_150 (by decide) ?_
                    refine v_iadd dX13_corner_151 ?_
                    refine v_iast dX13_corner_152 (by repeat (first | (with_reducible refine sv_us.trans ?_; exact rfl) | with_reducible assumption | with_reducible refine (sv_un (by omega)).trans ?_)) (vp_in_nI hp64 (by omega)) ?_
                    refine v_iconst (v := 1) dX13_corner_153 (by decide) ?_
                    exact v_iret rfl dX13_corner_154 (Nat.le_of_ble_eq_true rfl) (Nat.le_of_ble_eq_true rfl) rfl (by
      have ecl : ((16 : Int32) * nI p + nI n).toNatClampNeg = 16 * p + n := by rw [sv_16, nI_clamp (by omega)]
      have ecp : (nI p).toNatClampNeg = p := nI_clamp (by omega)
      rw [ecl, ecp]
      exact ⟨1, rfl, rfl, Or.inr ⟨rfl, (by first | exact fun q => absurd q.1 (sv_n0 hn c_79) | exact absurd rfl c_121 | exact fun q => c_113 (q.2.mp c_93) | exact fun q => c_93 (q.2.mpr c_113)), (by repeat (first | with_reducible assumption | with_reducible exact sv_us | with_reducible refine (sv_un (by omega)).trans ?_)), (by repeat (first | with_reducible assumption | with_reducible exact sv_us | with_reducible refine (sv_un (by omega)).trans ?_)), (by repeat (first | with_reducible assumption | with_reducible exact sv_us | with_reducible refine (sv_un (by omega)).trans ?_)), (by repeat (first | with_reducible assumption | with_reducible exact sv_us | with_reducible refine (sv_un (by omega)).trans ?_)), (fun w q1 q2 q3 q4 => by repeat (first | with_reducible rfl | with_reducible refine (sv_un (by assumption)).trans ?_))⟩⟩)
                  · refine v_iconst (v := 0) dX13_corner_124 (by decide) ?_
                    exact v_iret rfl dX13_corner_125 (Nat.le_of_ble_eq_true rfl) (Nat.le_of_ble_eq_true rfl) rfl ⟨0, rfl, rfl, Or.inl ⟨rfl, ⟨sv_p0 hn c_79, (by first | exact absurd c_121 (by decide) | exact ⟨fun _ => c_113, fun _ => c_93⟩ | exact ⟨fun q => absurd q c_93, fun q => absurd q c_113⟩)⟩, rfl⟩⟩
                · refine v_iconst (v := 1) dX13_corner_116 (by decide) ?_
                  refine v_goto (tgt := 121) dX13_corner_117 (by decide) ?_
                  refine v_icmp_ne (tgt := 126) dX13_corner_121 (by decide) (fun c_121 => ?_) (fun c_121 => ?_)
                  · refine v_aload_n dX13_corner_126 rfl 1 rfl ?_
                    refine v_getf 8 (ci := 11) (C := RX13) (T := TX13) (N := 71) rfl iwX13_corner_X13 (Nat.le_of_ble_eq_true rfl) (by decide +kernel) dX13_corner_127 (by repeat (first | (with_reducible refine sv_us.trans ?_; exact rfl) | with_reducible assumption | with_reducible refine (sv_un (by omega)).trans ?_)) (by repeat (first | with_reducible assumption | (with_reducible refine (sv_ls (by first | omega | (simp only [List.length_set]; omega))).trans ?_; exact rfl) | with_reducible refine (List.getElem?_set_ne (by decide)).trans ?_)) ?_
                    refine v_iload dX13_corner_130 0 rfl ?_
                    refine v_lload_n dX13_corner_132 rfl 3 rfl ?_
                    refine v_last dX13_corner_133 (by repeat (first | (with_reducible refine sv_us.trans ?_; exact rfl) | with_reducible assumption | with_reducible refine (sv_un (by omega)).trans ?_)) (by rw [sv_16]; exact vp_in_nI (by omega) (by omega)) ?_
                    refine v_aload_n dX13_corner_134 rfl 1 rfl ?_
                    refine v_getf 9 (ci := 11) (C := RX13) (T := TX13) (N := 71) rfl iwX13_corner_X13 (Nat.le_of_ble_eq_true rfl) (by decide +kernel) dX13_corner_135 (by repeat (first | (with_reducible refine sv_us.trans ?_; exact rfl) | with_reducible assumption | with_reducible refine (sv_un (by omega)).trans ?_)) (by repeat (first | with_reducible assumption | (with_reducible refine (sv_ls (by first | omega | (simp only [List.length_set]; omega))).trans ?_; exact rfl) | with_reducible refine (List.getElem?_set_ne (by decide)).trans ?_)) ?_
                    refine v_iload dX13_corner_138 0 rfl ?_
                    refine v_lload dX13_corner_140 4 rfl ?_
                    refine v_last dX13_corner_142 (by repeat (first | (with_reducible refine sv_us.trans ?_; exact rfl) | with_reducible assumption | with_reducible refine (sv_un (by omega)).trans ?_)) (by rw [sv_16]; exact vp_in_nI (by omega) (by omega)) ?_
                    refine v_aload_n dX13_corner_143 rfl 1 rfl ?_
                    refine v_getf 7 (ci := 11) (C := RX13) (T := TX13) (N := 71) rfl iwX13_corner_X13 (Nat.le_of_ble_eq_true rfl) (by decide +kernel) dX13_corner_144 (by repeat (first | (with_reducible refine sv_us.trans ?_; exact rfl) | with_reducible assumption | with_reducible refine (sv_un (by omega)).trans ?_)) (by repeat (first | with_reducible assumption | (with_reducible refine (sv_ls (by first | omega | (simp only [List.length_set]; omega))).trans ?_; exact rfl) | with_reducible refine (List.getElem?_set_ne (by decide)).trans ?_)) ?_
                    refine v_iload_n dX13_corner_147 rfl 2 rfl ?_
                    refine v_dup2_11 dX13_corner_148 rfl rfl ?_
                    refine v_ialdS (v := nI n) dX13_corner_149 (by repeat (first | (with_reducible refine sv_us.trans ?_; exact rfl) | with_reducible assumption | with_reducible refine (sv_un (by omega)).trans ?_)) (vp_in_nI hp64 (by omega)) (by rw [nI_clamp (by omega)]; exact hsn) ?_
                    refine v_iconst (v := 1) dX13_corner_150 (by decide) ?_
                    refine v_iadd dX13_corner_151 ?_
                    refine v_iast dX13_corner_152 (by repeat (first | (with_reducible refine sv_us.trans ?_; exact rfl) | with_reducible assumption | with_reducible refine (sv_un (by omega)).trans ?_)) (vp_in_nI hp64 (by omega)) ?_
                    refine v_iconst (v := 1) dX13_corner_153 (by decide) ?_
                    exact v_iret rfl dX13_corner_154 (Nat.le_of_ble_eq_true rfl) (Nat.le_of_ble_eq_true rfl) rfl (by
      have ecl : ((16 : Int32) * nI p + nI n).toNatClampNeg = 16 * p + n := by rw [sv_16, nI_clamp (by omega)]
      have ecp : (nI p).toNatClampNeg = p := nI_clamp (by omega)
      rw [ecl, ecp]
      exact ⟨1, rfl, rfl, Or.inr ⟨rfl, (by first | exact fun q => absurd q.1 (sv_n0 hn c_79) | exact absurd rfl c_121 | exact fun q => c_113 (q.2.mp c_93) | exact fun q => c_93 (q.2.mpr c_113)), (by repeat (first | with_reducible assumption | with_reducible exact sv_us | with_reducible refine (sv_un (by omega)).trans ?_)), (by repeat (first | with_reducible assumption | with_reducible exact sv_us | with_reducible refine (sv_un (by omega)).trans ?_)), (by repeat (first | with_reducible assumption | with_reducible exact sv_us | with_reducible refine (sv_un (by omega)).trans ?_)), (by repeat (first | with_reducible assumption | with_reducible exact sv_us | with_reducible refine (sv_un (by omega)).trans ?_)), (fun w q1 q2 q3 q4 => by repeat (first | with_reducible rfl | with_reducible refine (sv_un (by assumption)).trans ?_))⟩⟩)
                  · refine v_iconst (v := 0) dX13_corner_124 (by decide) ?_
                    exact v_iret rfl dX13_corner_125 (Nat.le_of_ble_eq_true rfl) (Nat.le_of_ble_eq_true rfl) rfl ⟨0, rfl, rfl, Or.inl ⟨rfl, ⟨sv_p0 hn c_79, (by first | exact absurd c_121 (by decide) | exact ⟨fun _ => c_113, fun _ => c_93⟩ | exact ⟨fun q => absurd q c_93, fun q => absurd q c_113⟩)⟩, rfl⟩⟩
          · exact absurd (by decide) c_55
    · exact absurd ((nI_eq (b := 16) (by omega) (by omega)).mp c_21) (by omega)
  · exact absurd c_6 (by decide)

set_option maxHeartbeats 4000000 in
set_option maxRecDepth 100000 in
theorem m_corner_f (G : sv_G) (h : sv_h) (z b : Nat) (fs : List Value) (k : Int32) (nc np pl tn nr nl : Nat) (lq lf : Int32) (nw : Nat) (gfs : ab_fs b k nc np pl tn nr nl lq lf nw fs) (hm : h (b + 220) = some (.inr (11, fs))) (p n : Nat) (x y : Int64) (gs : Nat → Int32) (gx gy : Nat → Int64) (hgs : ab_I G h (b + 224) 64 gs) (hgx : ab_J G h (b + 225) 1024 gx) (hgy : ab_J G h (b + 226) 1024 gy) (hg : 0 ≤ nI p ∧ nI p < nI np) (hp64 : p < 64) (hsn : gs p = nI n) (hn16 : n ≤ 16) (hn : n = 16) : CT G mX13_corner [.ref (b + 220), .int (nI p), .long x, .long y] h z (fun v h1 z1 => v = some (.int 0) ∧ h1 = va_up h (b + 220) (some (.inr (11, fs.set 0 (.int 2)))) ∧ z1 = z) := by
  refine CT.of (by decide +kernel) rfl rfl (Nat.le_of_ble_eq_true rfl) ?_
  have hlen := gfs.1
  have f_polygons := gfs.f_polygons
  have f_size := gfs.f_size
  refine v_aload_n dX13_corner_0 rfl 0 rfl ?_
  refine v_aload_n dX13_corner_1 rfl 0 rfl ?_
  refine v_iload_n dX13_corner_2 rfl 1 rfl ?_
  refine v_callV (M' := mX13_isPolygon) (n := 1) (As := [_]) (ci := 11) (r := (RX13, TX13, 71)) gX13_corner_X13_isPolygon rfl (by decide +kernel) ⟨(Nat.le_of_ble_eq_true rfl), (Nat.le_of_ble_eq_true rfl)⟩ rfl rfl dX13_corner_3 rfl ⟨(Nat.le_of_ble_eq_true rfl), (Nat.le_of_ble_eq_true rfl)⟩ (Nat.le_of_ble_eq_true rfl) (by repeat (first | (with_reducible refine sv_us.trans ?_; exact rfl) | with_reducible assumption | with_reducible refine (sv_un (by omega)).trans ?_)) rfl (m_isPolygon G _ _ _ _ hlen hm _ _ f_polygons) (fun v h1 z1 hq => ?_)
  rw [if_pos hg] at hq
  obtain ⟨rfl, rfl, rfl⟩ := hq
  refine v_if_ne (tgt := 13) dX13_corner_6 (by decide) (fun c_6 => ?_) (fun c_6 => ?_)
  · refine v_aload_n dX13_corner_13 rfl 0 rfl ?_
    refine v_getf 7 (ci := 11) (C := RX13) (T := TX13) (N := 71) rfl iwX13_corner_X13 (Nat.le_of_ble_eq_true rfl) (by decide +kernel) dX13_corner_14 (by repeat (first | (with_reducible refine sv_us.trans ?_; exact rfl) | with_reducible assumption | with_reducible refine (sv_un (by omega)).trans ?_)) (by repeat (first | with_reducible assumption | (with_reducible refine (sv_ls (by first | omega | (simp only [List.length_set]; omega))).trans ?_; exact rfl) | with_reducible refine (List.getElem?_set_ne (by decide)).trans ?_)) ?_
    refine v_iload_n dX13_corner_17 rfl 1 rfl ?_
    refine v_ialdS (v := nI n) dX13_corner_18 (by repeat (first | (with_reducible refine sv_us.trans ?_; exact rfl) | with_reducible assumption | with_reducible refine (sv_un (by omega)).trans ?_)) (vp_in_nI hp64 (by omega)) (by rw [nI_clamp (by omega)]; exact hsn) ?_
    refine v_bipush (v := 16) dX13_corner_19 (by decide) ?_
    refine v_icmp_ne (tgt := 28) dX13_corner_21 (by decide) (fun c_21 => ?_) (fun c_21 => ?_)
    · exact absurd (by rw [hn]; rfl) c_21
    · refine v_iconst (v := 2) dX13_corner_24 (by decide) ?_
      refine v_goto (tgt := 48) dX13_corner_25 (by decide) ?_
      refine v_putf 0 (fs' := _) (ci := 11) (C := RX13) (T := TX13) (N := 71) (ty := .int) rfl iwX13_corner_X13 tyX13 tyX13_ok nmX13 (Nat.le_of_ble_eq_true rfl) (by decide +kernel) rfl rfl dX13_corner_48 rfl rfl (by repeat (first | (with_reducible refine sv_us.trans ?_; exact rfl) | with_reducible assumption | with_reducible refine (sv_un (by omega)).trans ?_)) (by first | omega | (simp only [List.length_set]; omega)) rfl ?_
      refine v_aload_n dX13_corner_51 rfl 0 rfl ?_
      refine v_getf 0 (ci := 11) (C := RX13) (T := TX13) (N := 71) rfl iwX13_corner_X13 (Nat.le_of_ble_eq_true rfl) (by decide +kernel) dX13_corner_52 (by repeat (first | (with_reducible refine sv_us.trans ?_; exact rfl) | with_reducible assumption | with_reducible refine (sv_un (by omega)).trans ?_)) (by repeat (first | with_reducible assumption | (with_reducible refine (sv_ls (by first | omega | (simp only [List.length_set]; omega))).trans ?_; exact rfl) | with_reducible refine (List.getElem?_set_ne (by decide)).trans ?_)) ?_
      refine v_if_le (tgt := 60) dX13_corner_55 (by decide) (fun c_55 => ?_) (fun c_55 => ?_)
      · exact absurd c_55 (by decide)
      · refine v_iconst (v := 0) dX13_corner_58 (by decide) ?_
        exact v_iret rfl dX13_corner_59 (Nat.le_of_ble_eq_true rfl) (Nat.le_of_ble_eq_true rfl) rfl ⟨rfl, rfl, rfl⟩
  · exact absurd c_6 (by decide)

set_option maxHeartbeats 4000000 in
set_option maxRecDepth 100000 in
theorem m_corner_a (G : sv_G) (h : sv_h) (z b : Nat) (fs : List Value) (k : Int32) (nc np pl tn nr nl : Nat) (lq lf : Int32) (nw : Nat) (gfs : ab_fs b k nc np pl tn nr nl lq lf nw fs) (hm : h (b + 220) = some (.inr (11, fs))) (p n : Nat) (x y : Int64) (gs : Nat → Int32) (gx gy : Nat → Int64) (hgs : ab_I G h (b + 224) 64 gs) (hgx : ab_J G h (b + 225) 1024 gx) (hgy : ab_J G h (b + 226) 1024 gy) (hg : 0 ≤ nI p ∧ nI p < nI np) (hp64 : p < 64) (hsn : gs p = nI n) (hn16 : n ≤ 16) (hn : n < 16) (hc : ¬ ((¬ x < -10000 ∧ x ≤ 10000) ∧ (¬ y < -10000 ∧ y ≤ 10000))) : CT G mX13_corner [.ref (b + 220), .int (nI p), .long x, .long y] h z (fun v h1 z1 => v = some (.int 0) ∧ h1 = va_up h (b + 220) (some (.inr (11, fs.set 0 (.int 3)))) ∧ z1 = z) := by
  refine CT.of (by decide +kernel) rfl rfl (Nat.le_of_ble_eq_true rfl) ?_
  have hlen := gfs.1
  have f_polygons := gfs.f_polygons
  have f_size := gfs.f_size
  refine v_aload_n dX13_corner_0 rfl 0 rfl ?_
  refine v_aload_n dX13_corner_1 rfl 0 rfl ?_
  refine v_iload_n dX13_corner_2 rfl 1 rfl ?_
  refine v_callV (M' := mX13_isPolygon) (n := 1) (As := [_]) (ci := 11) (r := (RX13, TX13, 71)) gX13_corner_X13_isPolygon rfl (by decide +kernel) ⟨(Nat.le_of_ble_eq_true rfl), (Nat.le_of_ble_eq_true rfl)⟩ rfl rfl dX13_corner_3 rfl ⟨(Nat.le_of_ble_eq_true rfl), (Nat.le_of_ble_eq_true rfl)⟩ (Nat.le_of_ble_eq_true rfl) (by repeat (first | (with_reducible refine sv_us.trans ?_; exact rfl) | with_reducible assumption | with_reducible refine (sv_un (by omega)).trans ?_)) rfl (m_isPolygon G _ _ _ _ hlen hm _ _ f_polygons) (fun v h1 z1 hq => ?_)
  rw [if_pos hg] at hq
  obtain ⟨rfl, rfl, rfl⟩ := hq
  refine v_if_ne (tgt := 13) dX13_corner_6 (by decide) (fun c_6 => ?_) (fun c_6 => ?_)
  · refine v_aload_n dX13_corner_13 rfl 0 rfl ?_
    refine v_getf 7 (ci := 11) (C := RX13) (T := TX13) (N := 71) rfl iwX13_corner_X13 (Nat.le_of_ble_eq_true rfl) (by decide +kernel) dX13_corner_14 (by repeat (first | (with_reducible refine sv_us.trans ?_; exact rfl) | with_reducible assumption | with_reducible refine (sv_un (by omega)).trans ?_)) (by repeat (first | with_reducible assumption | (with_reducible refine (sv_ls (by first | omega | (simp only [List.length_set]; omega))).trans ?_; exact rfl) | with_reducible refine (List.getElem?_set_ne (by decide)).trans ?_)) ?_
    refine v_iload_n dX13_corner_17 rfl 1 rfl ?_
    refine v_ialdS (v := nI n) dX13_corner_18 (by repeat (first | (with_reducible refine sv_us.trans ?_; exact rfl) | with_reducible assumption | with_reducible refine (sv_un (by omega)).trans ?_)) (vp_in_nI hp64 (by omega)) (by rw [nI_clamp (by omega)]; exact hsn) ?_
    refine v_bipush (v := 16) dX13_corner_19 (by decide) ?_
    refine v_icmp_ne (tgt := 28) dX13_corner_21 (by decide) (fun c_21 => ?_) (fun c_21 => ?_)
    · refine v_lload_n dX13_corner_28 rfl 2 rfl ?_
      refine v_callS (M' := mX13_isIn) (n := 1) (As := [_]) ggX13_corner_X13_isIn (by decide +kernel) (by decide +kernel) (by decide +kernel) rfl (by decide +kernel) ⟨(Nat.le_of_ble_eq_true rfl), (Nat.le_of_ble_eq_true rfl)⟩ dX13_corner_29 rfl ⟨(Nat.le_of_ble_eq_true rfl), (Nat.le_of_ble_eq_true rfl)⟩ (Nat.le_of_ble_eq_true rfl) rfl (m_isIn G _ _ x) (fun v h1 z1 hq => ?_)
      obtain ⟨rfl, rfl, rfl⟩ := hq
      refine v_if_eq (tgt := 47) dX13_corner_32 (by decide) (fun c_32 => ?_) (fun c_32 => ?_)
      · refine v_iconst (v := 3) dX13_corner_47 (by decide) ?_
        refine v_putf 0 (fs' := _) (ci := 11) (C := RX13) (T := TX13) (N := 71) (ty := .int) rfl iwX13_corner_X13 tyX13 tyX13_ok nmX13 (Nat.le_of_ble_eq_true rfl) (by decide +kernel) rfl rfl dX13_corner_48 rfl rfl (by repeat (first | (with_reducible refine sv_us.trans ?_; exact rfl) | with_reducible assumption | with_reducible refine (sv_un (by omega)).trans ?_)) (by first | omega | (simp only [List.length_set]; omega)) rfl ?_
        refine v_aload_n dX13_corner_51 rfl 0 rfl ?_
        refine v_getf 0 (ci := 11) (C := RX13) (T := TX13) (N := 71) rfl iwX13_corner_X13 (Nat.le_of_ble_eq_true rfl) (by decide +kernel) dX13_corner_52 (by repeat (first | (with_reducible refine sv_us.trans ?_; exact rfl) | with_reducible assumption | with_reducible refine (sv_un (by omega)).trans ?_)) (by repeat (first | with_reducible assumption | (with_reducible refine (sv_ls (by first | omega | (simp only [List.length_set]; omega))).trans ?_; exact rfl) | with_reducible refine (List.getElem?_set_ne (by decide)).trans ?_)) ?_
        refine v_if_le (tgt := 60) dX13_corner_55 (by decide) (fun c_55 => ?_) (fun c_55 => ?_)
        · exact absurd c_55 (by decide)
        · refine v_iconst (v := 0) dX13_corner_58 (by decide) ?_
          exact v_iret rfl dX13_corner_59 (Nat.le_of_ble_eq_true rfl) (Nat.le_of_ble_eq_true rfl) rfl ⟨rfl, rfl, rfl⟩
      · refine v_lload dX13_corner_35 3 rfl ?_
        refine v_callS (M' := mX13_isIn) (n := 1) (As := [_]) ggX13_corner_X13_isIn (by decide +kernel) (by decide +kernel) (by decide +kernel) rfl (by decide +kernel) ⟨(Nat.le_of_ble_eq_true rfl), (Nat.le_of_ble_eq_true rfl)⟩ dX13_corner_37 rfl ⟨(Nat.le_of_ble_eq_true rfl), (Nat.le_of_ble_eq_true rfl)⟩ (Nat.le_of_ble_eq_true rfl) rfl (m_isIn G _ _ y) (fun v h1 z1 hq => ?_)
        obtain ⟨rfl, rfl, rfl⟩ := hq
        refine v_if_eq (tgt := 47) dX13_corner_40 (by decide) (fun c_40 => ?_) (fun c_40 => ?_)
        · refine v_iconst (v := 3) dX13_corner_47 (by decide) ?_
          refine v_putf 0 (fs' := _) (ci := 11) (C := RX13) (T := TX13) (N := 71) (ty := .int) rfl iwX13_corner_X13 tyX13 tyX13_ok nmX13 (Nat.le_of_ble_eq_true rfl) (by decide +kernel) rfl rfl dX13_corner_48 rfl rfl (by repeat (first | (with_reducible refine sv_us.trans ?_; exact rfl) | with_reducible assumption | with_reducible refine (sv_un (by omega)).trans ?_)) (by first | omega | (simp only [List.length_set]; omega)) rfl ?_
          refine v_aload_n dX13_corner_51 rfl 0 rfl ?_
          refine v_getf 0 (ci := 11) (C := RX13) (T := TX13) (N := 71) rfl iwX13_corner_X13 (Nat.le_of_ble_eq_true rfl) (by decide +kernel) dX13_corner_52 (by repeat (first | (with_reducible refine sv_us.trans ?_; exact rfl) | with_reducible assumption | with_reducible refine (sv_un (by omega)).trans ?_)) (by repeat (first | with_reducible assumption | (with_reducible refine (sv_ls (by first | omega | (simp only [List.length_set]; omega))).trans ?_; exact rfl) | with_reducible refine (List.getElem?_set_ne (by decide)).trans ?_)) ?_
          refine v_if_le (tgt := 60) dX13_corner_55 (by decide) (fun c_55 => ?_) (fun c_55 => ?_)
          · exact absurd c_55 (by decide)
          · refine v_iconst (v := 0) dX13_corner_58 (by decide) ?_
            exact v_iret rfl dX13_corner_59 (Nat.le_of_ble_eq_true rfl) (Nat.le_of_ble_eq_true rfl) rfl ⟨rfl, rfl, rfl⟩
        · exact absurd ⟨sv_ifn c_32, sv_ifn c_40⟩ hc
    · exact absurd ((nI_eq (b := 16) (by omega) (by omega)).mp c_21) (by omega)
  · exact absurd c_6 (by decide)

theorem sv_cr {x : Int64} (h : (¬ x < -10000 ∧ x ≤ 10000)) : x.toInt32.toInt64 = x ∧ ab_co x.toInt32 := by
  obtain ⟨h1, h2⟩ := h
  rw [Int64.lt_iff_toInt_lt, show (-10000 : Int64).toInt = -10000 by decide] at h1
  rw [Int64.le_iff_toInt_le, show (10000 : Int64).toInt = 10000 by decide] at h2
  have e : x.toInt32.toInt = x.toInt := by
    rw [Int64.toInt_toInt32]
    exact Int.bmod_eq_of_le (by omega) (by omega)
  refine ⟨by rw [← Int64.toInt_inj, Int32.toInt_toInt64, e], ?_, ?_⟩
  · rw [Int32.le_iff_toInt_le, e, show (-10000 : Int32).toInt = -10000 by decide]; omega
  · rw [Int32.le_iff_toInt_le, e, show (10000 : Int32).toInt = 10000 by decide]; omega
theorem sv_32i {x y : Int32} : x.toInt64 = y.toInt64 ↔ x = y := ⟨fun h => by rw [← Int32.toInt_inj]; have := congrArg Int64.toInt h; rwa [Int32.toInt_toInt64, Int32.toInt_toInt64] at this, fun h => by rw [h]⟩
/-- the corners of polygon p anew -/
def ab_u (u : Nat → Nat → Nat → Int32) (p : Nat) (X Y : Nat → Int32) : Nat → Nat → Nat → Int32 := fun c i => if i = p then (if c = 0 then X else if c = 1 then Y else u c i) else u c i
theorem ab_u_0 {u : Nat → Nat → Nat → Int32} {p : Nat} {X Y : Nat → Int32} : ab_u u p X Y 0 p = X := by simp [ab_u]
theorem ab_u_1 {u : Nat → Nat → Nat → Int32} {p : Nat} {X Y : Nat → Int32} : ab_u u p X Y 1 p = Y := by simp [ab_u]
theorem ab_u_n {u : Nat → Nat → Nat → Int32} {p c i : Nat} {X Y : Nat → Int32} (h : i ≠ p) : ab_u u p X Y c i = u c i := by simp [ab_u, h]
theorem ab_ok.corner {nc np pl : Nat} {sz : Nat → Nat} {t : Nat → Nat → Int32} {u : Nat → Nat → Nat → Int32} (H : ab_ok nc np pl sz t u) {p : Nat} (hp : p < np) {X Y : Nat → Int32} (hn : sz p < 16) (hX : ∀ i, i < sz p → X i = u 0 p i ∧ Y i = u 1 p i) {x y : Int32} (hx : ab_co x) (hy : ab_co y) (hr : ¬ (0 < sz p ∧ (x = X (sz p - 1) ↔ y = Y (sz p - 1)))) : ab_ok nc np pl (va_up sz p (sz p + 1)) t (ab_u u p (upd X (sz p) x) (upd Y (sz p) y)) := by
  obtain ⟨a1, a2, a3, a4, a5, a6⟩ := H
  refine ⟨a1, a2, a3, fun p' hp' => ?_, a5, a6⟩
  by_cases q : p' = p
  · subst q
    obtain ⟨b1, b2, b3, b4, b5, b6⟩ := a4 p' hp
    rw [sv_us, ab_u_0, ab_u_1]
    refine ⟨by omega, b2, b3, b4, fun i hi => ?_, fun i hi => ?_⟩
    · by_cases e : i = sz p'
      · subst e; simp only [upd, if_true]; exact ⟨hx, hy⟩
      · simp only [upd, if_neg e]
        rw [(hX i (by omega)).1, (hX i (by omega)).2]; exact b5 i (by omega)
    · have e1 : ¬ i = sz p' := by omega
      by_cases e : i + 1 = sz p'
      · simp only [upd, e, if_true, if_neg e1]
        intro r
        apply hr
        refine ⟨by omega, ?_⟩
        rw [show sz p' - 1 = i by omega]
        exact r
      · simp only [upd, if_neg e, if_neg e1]
        rw [(hX i (by omega)).1, (hX i (by omega)).2, (hX (i + 1) (by omega)).1, (hX (i + 1) (by omega)).2]
        exact b6 i (by omega)
  · rw [sv_un q, ab_u_n q, ab_u_n q]
    exact a4 p' (by assumption)
