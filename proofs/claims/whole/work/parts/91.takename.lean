theorem iwX6_takeLimit_X7 : ∀ w ∈ wsX70, w ∈ wsX6_takeLimit := by decide +kernel
set_option maxRecDepth 20000 in
theorem ggX6_takeLimit_X6_takeNumber : GoodIn wsX6_takeLimit wsX6_takeNumber := goodIn_r _ [7, 8, 9, 10, 11, 12, 6, 13, 14, 15, 16, 17, 18, 19, 20, 21, 22, 23, 24, 25, 26, 35, 36, 37, 38, 39, 40, 41, 42, 43, 44, 45] (by decide +kernel) (by decide +kernel)
set_option maxRecDepth 20000 in
theorem gX6_takeLimit_X6_takeNumber : GoodIn wsX6_takeLimit (wsV RX6 107 RX6 yX6_takeNumber wsX6_takeNumber) := goodIn_app (goodIn_of _ (by decide +kernel)) ggX6_takeLimit_X6_takeNumber
theorem dX6_takeLimit_0 : decode cX6_takeLimit 0 = .ok (.aload_n 1, 1) := by decide +kernel
theorem dX6_takeLimit_1 : decode cX6_takeLimit 1 = .ok (.aload_n 0, 1) := by decide +kernel
theorem dX6_takeLimit_2 : decode cX6_takeLimit 2 = .ok (.ldc 118, 2) := by decide +kernel
theorem dX6_takeLimit_4 : decode cX6_takeLimit 4 = .ok (.invokevirtual 107, 3) := by decide +kernel
theorem dX6_takeLimit_7 : decode cX6_takeLimit 7 = .ok (.putfield 119, 3) := by decide +kernel
theorem dX6_takeLimit_10 : decode cX6_takeLimit 10 = .ok (.aload_n 1, 1) := by decide +kernel
theorem dX6_takeLimit_11 : decode cX6_takeLimit 11 = .ok (.getfield 119, 3) := by decide +kernel
theorem dX6_takeLimit_14 : decode cX6_takeLimit 14 = .ok (.iconst (-1), 1) := by decide +kernel
theorem dX6_takeLimit_15 : decode cX6_takeLimit 15 = .ok (.if_icmp .eq 7, 3) := by decide +kernel
theorem dX6_takeLimit_18 : decode cX6_takeLimit 18 = .ok (.iconst 1, 1) := by decide +kernel
theorem dX6_takeLimit_19 : decode cX6_takeLimit 19 = .ok (.goto 4, 3) := by decide +kernel
theorem dX6_takeLimit_22 : decode cX6_takeLimit 22 = .ok (.iconst 0, 1) := by decide +kernel
theorem dX6_takeLimit_23 : decode cX6_takeLimit 23 = .ok (.ireturn, 1) := by decide +kernel

abbrev mX6_takeLimit : sv_M := (cX6_takeLimit, 2, yX6_takeLimit, wsX6_takeLimit, (some .boolean), { frames := 40, cells := 0, slots := 0, locals := 2000 }, [])
set_option maxHeartbeats 4000000 in
set_option maxRecDepth 100000 in
theorem l_takeName (G : sv_G) (h : sv_h) (z b n : Nat) (k df wd : Int32) (A : Nat) (f tp : Nat → Int32) (ht1 : h (b + 8) = some (.inr (7, [.ref (b + 9), .int (nI n)]))) (ht2 : ab_I G h (b + 9) 600 f) (htp : ∀ i, i < n → f i = tp i) (hn : n ≤ 600) (a e : Nat) (hen : e ≤ n) (hrd : h (b + 10) = some (.inr (4, [.ref (b + 8), .int k, .ref A, .int df, .int wd, .int (lx_ss n tp a e), .int (nI a), .int (nI e), .long (lx_vv n tp a e)]))) (d : Nat) (hd : d < 20) (fq : Nat → Option Nat) (hA : ab_Q G h A 5 20 fq) (hfq : ∀ j, j < 20 → fq j = some (A + 1 + j)) (nm : Nat → Int64) (hnm : ∀ i, i < d → ∃ (kd0 : Nat) (y1 y2 y3 y4 y5 y6 : Int32), h (A + 1 + i) = some (.inr (5, [.long (nm i), .ref kd0, .int y1, .int y2, .int y3, .int y4, .int y5, .int y6]))) (n0 : Int64) (kd : Nat) (x1 x2 x3 x4 x5 x6 : Int32) (hru : h (A + 1 + d) = some (.inr (5, [.long n0, .ref kd, .int x1, .int x2, .int x3, .int x4, .int x5, .int x6]))) (hAb : A = b + 11 ∨ A = b + 183) (hdf : df = nI d) (hs : lx_ss n tp a e = 2) : ∀ (c i : Nat), i + c = d → (∀ j, j < i → ¬ nm j = lx_vv n tp a e) → V G mX6_takeName (sv_MQ G mX6_takeName (fun v h1 z1 => z1 = z ∧ ∃ w0 : Int32, v = some (.int w0) ∧ ((w0 = 1 ∧ (lx_ss n tp a e = 2 ∧ ∀ i, i < d → ¬ nm i = lx_vv n tp a e) ∧ (∃ a1 e1, lx_T n tp e a1 e1 ∧ h1 (b + 10) = some (.inr (4, [.ref (b + 8), .int k, .ref A, .int df, .int (wd + 1), .int (lx_ss n tp a1 e1), .int (nI a1), .int (nI e1), .long (lx_vv n tp a1 e1)]))) ∧ h1 (A + 1 + d) = some (.inr (5, [.long (lx_vv n tp a e), .ref kd, .int x1, .int x2, .int x3, .int x4, .int x5, .int x6])) ∧ ∀ w, w ≠ b + 10 → w ≠ A + 1 + d → h1 w = h w) ∨ (w0 = 0 ∧ ¬ (lx_ss n tp a e = 2 ∧ ∀ i, i < d → ¬ nm i = lx_vv n tp a e) ∧ h1 = h)))) 12 [(2, .int (nI i)), (0, .ref (b + 10)), (1, .ref (A + 1 + d))] [] h z 0 0 := by
  intro c
  induction c with
  | zero =>
    intro i hic hno
    refine v_iload_n dX6_takeName_12 rfl 0 rfl ?_
    refine v_aload_n dX6_takeName_13 rfl 1 rfl ?_
    refine v_getf 3 (ci := 4) (C := RX6) (T := TX6) (N := 9) rfl iwX6_takeName_X6 (Nat.le_of_ble_eq_true rfl) (by decide +kernel) dX6_takeName_14 (by first | with_reducible assumption) rfl ?_
    refine v_icmp_ge (tgt := 45) dX6_takeName_17 (by decide) (fun c_17 => ?_) (fun c_17 => ?_)
    · refine v_aload_n dX6_takeName_45 rfl 2 rfl ?_
      refine v_aload_n dX6_takeName_46 rfl 1 rfl ?_
      refine v_getf 8 (ci := 4) (C := RX6) (T := TX6) (N := 9) rfl iwX6_takeName_X6 (Nat.le_of_ble_eq_true rfl) (by decide +kernel) dX6_takeName_47 (by first | with_reducible assumption) rfl ?_
      refine v_putf 0 (fs' := [_, _, _, _, _, _, _, _]) (ci := 5) (C := RX7) (T := TX7) (N := 8) (ty := .long) rfl iwX6_takeName_X7 tyX7 tyX7_ok nmX7 (Nat.le_of_ble_eq_true rfl) (by decide +kernel) rfl rfl dX6_takeName_50 rfl rfl (by first | with_reducible assumption) (Nat.le_of_ble_eq_true rfl) rfl ?_
      refine v_aload_n dX6_takeName_53 rfl 1 rfl ?_
      refine v_callVq (M' := mX6_step) (n := 0) (As := []) (ci := 4) (r := (RX6, TX6, 9)) gX6_takeName_X6_step rfl (by decide +kernel) ⟨(Nat.le_of_ble_eq_true rfl), (Nat.le_of_ble_eq_true rfl)⟩ rfl rfl dX6_takeName_54 rfl ⟨(Nat.le_of_ble_eq_true rfl), (Nat.le_of_ble_eq_true rfl)⟩ (Nat.le_of_ble_eq_true rfl) ((sv_un (by omega)).trans hrd) rfl (c_step G _ z b n k df wd A f tp ((sv_un (by omega)).trans ht1) ((sv_un (by omega)).trans ht2) htp hn e hen _ _ _ ((sv_un (by omega)).trans hrd)) (fun v h1 z1 hq => ?_)
      obtain ⟨rfl, rfl, ⟨a1, e1, k1, k2⟩, k3⟩ := hq
      refine v_iconst (v := 1) dX6_takeName_57 (by decide) ?_
      exact v_iret rfl dX6_takeName_58 (Nat.le_of_ble_eq_true rfl) (Nat.le_of_ble_eq_true rfl) rfl ⟨rfl, 1, rfl, Or.inl ⟨rfl, ⟨hs, fun j hj => hno j (by omega)⟩, ⟨a1, e1, k1, k2⟩, (k3 _ (by omega)).trans sv_us, fun w q1 q2 => (k3 w q1).trans (sv_un q2)⟩⟩
    · exact absurd (show df ≤ nI i by rw [hdf]; exact nI_le (by omega) (by omega)) c_17
  | succ c ih =>
    intro i hic hno
    obtain ⟨kd0, y1, y2, y3, y4, y5, y6, hyi⟩ := hnm i (by omega)
    refine v_iload_n dX6_takeName_12 rfl 0 rfl ?_
    refine v_aload_n dX6_takeName_13 rfl 1 rfl ?_
    refine v_getf 3 (ci := 4) (C := RX6) (T := TX6) (N := 9) rfl iwX6_takeName_X6 (Nat.le_of_ble_eq_true rfl) (by decide +kernel) dX6_takeName_14 (by first | with_reducible assumption) rfl ?_
    refine v_icmp_ge (tgt := 45) dX6_takeName_17 (by decide) (fun c_17 => ?_) (fun c_17 => ?_)
    · exact absurd c_17 (by rw [hdf]; exact nI_ge (by omega) (by omega))
    · refine v_aload_n dX6_takeName_20 rfl 1 rfl ?_
      refine v_getf 2 (ci := 4) (C := RX6) (T := TX6) (N := 9) rfl iwX6_takeName_X6 (Nat.le_of_ble_eq_true rfl) (by decide +kernel) dX6_takeName_21 (by first | with_reducible assumption) rfl ?_
      refine v_iload_n dX6_takeName_24 rfl 0 rfl ?_
      refine v_aaldS (t := 5) (q := A + 1 + i) dX6_takeName_25 (fun _ => rfl) (by first | with_reducible assumption) (vp_in_nI (by omega) (by omega)) (by rw [nI_clamp (by omega)]; exact hfq i (by omega)) ?_
      refine v_getf 0 (ci := 5) (C := RX7) (T := TX7) (N := 8) rfl iwX6_takeName_X7 (Nat.le_of_ble_eq_true rfl) (by decide +kernel) dX6_takeName_26 (by first | with_reducible assumption) rfl ?_
      refine v_aload_n dX6_takeName_29 rfl 1 rfl ?_
      refine v_getf 8 (ci := 4) (C := RX6) (T := TX6) (N := 9) rfl iwX6_takeName_X6 (Nat.le_of_ble_eq_true rfl) (by decide +kernel) dX6_takeName_30 (by first | with_reducible assumption) rfl ?_
      refine v_lcmp_ne (tgt := 39) dX6_takeName_33 dX6_takeName_34 (by decide) (fun c_34 => ?_) (fun c_34 => ?_)
      · refine v_iinc (j := 0) (L' := [(2, _), (0, _), (1, _)]) (v := nI (i + 1)) dX6_takeName_39 rfl (nI_1 _) (Nat.le_of_ble_eq_true rfl) rfl ?_
        refine v_goto (tgt := 12) dX6_takeName_42 (by decide) ?_
        refine v_sub (L' := [(2, _), (0, _), (1, _)]) [0, 1, 2] rfl ?_
        refine ih (i + 1) (by omega) (fun j hj => ?_)
        by_cases q : j = i
        · rw [q]; exact c_34
        · exact hno j (by omega)
      · refine v_iconst (v := 0) dX6_takeName_37 (by decide) ?_
        exact v_iret rfl dX6_takeName_38 (Nat.le_of_ble_eq_true rfl) (Nat.le_of_ble_eq_true rfl) rfl ⟨rfl, 0, rfl, Or.inr ⟨rfl, fun q => q.2 i (by omega) c_34, rfl⟩⟩

set_option maxHeartbeats 4000000 in
set_option maxRecDepth 100000 in
theorem c_takeName (G : sv_G) (h : sv_h) (z b n : Nat) (k df wd : Int32) (A : Nat) (f tp : Nat → Int32) (ht1 : h (b + 8) = some (.inr (7, [.ref (b + 9), .int (nI n)]))) (ht2 : ab_I G h (b + 9) 600 f) (htp : ∀ i, i < n → f i = tp i) (hn : n ≤ 600) (a e : Nat) (hen : e ≤ n) (hrd : h (b + 10) = some (.inr (4, [.ref (b + 8), .int k, .ref A, .int df, .int wd, .int (lx_ss n tp a e), .int (nI a), .int (nI e), .long (lx_vv n tp a e)]))) (d : Nat) (hd : d < 20) (fq : Nat → Option Nat) (hA : ab_Q G h A 5 20 fq) (hfq : ∀ j, j < 20 → fq j = some (A + 1 + j)) (nm : Nat → Int64) (hnm : ∀ i, i < d → ∃ (kd0 : Nat) (y1 y2 y3 y4 y5 y6 : Int32), h (A + 1 + i) = some (.inr (5, [.long (nm i), .ref kd0, .int y1, .int y2, .int y3, .int y4, .int y5, .int y6]))) (n0 : Int64) (kd : Nat) (x1 x2 x3 x4 x5 x6 : Int32) (hru : h (A + 1 + d) = some (.inr (5, [.long n0, .ref kd, .int x1, .int x2, .int x3, .int x4, .int x5, .int x6]))) (hAb : A = b + 11 ∨ A = b + 183) (hdf : df = nI d) : CT G mX6_takeName [.ref (b + 10), .ref (A + 1 + d)] h z (fun v h1 z1 => z1 = z ∧ ∃ w0 : Int32, v = some (.int w0) ∧ ((w0 = 1 ∧ (lx_ss n tp a e = 2 ∧ ∀ i, i < d → ¬ nm i = lx_vv n tp a e) ∧ (∃ a1 e1, lx_T n tp e a1 e1 ∧ h1 (b + 10) = some (.inr (4, [.ref (b + 8), .int k, .ref A, .int df, .int (wd + 1), .int (lx_ss n tp a1 e1), .int (nI a1), .int (nI e1), .long (lx_vv n tp a1 e1)]))) ∧ h1 (A + 1 + d) = some (.inr (5, [.long (lx_vv n tp a e), .ref kd, .int x1, .int x2, .int x3, .int x4, .int x5, .int x6])) ∧ ∀ w, w ≠ b + 10 → w ≠ A + 1 + d → h1 w = h w) ∨ (w0 = 0 ∧ ¬ (lx_ss n tp a e = 2 ∧ ∀ i, i < d → ¬ nm i = lx_vv n tp a e) ∧ h1 = h))) := by
  refine CT.of (by decide +kernel) rfl rfl (Nat.le_of_ble_eq_true rfl) ?_
  refine v_aload_n dX6_takeName_0 rfl 0 rfl ?_
  refine v_getf 5 (ci := 4) (C := RX6) (T := TX6) (N := 9) rfl iwX6_takeName_X6 (Nat.le_of_ble_eq_true rfl) (by decide +kernel) dX6_takeName_1 (by repeat (first | (with_reducible refine sv_us.trans ?_; exact rfl) | with_reducible assumption | with_reducible refine (sv_un (by omega)).trans ?_)) (by exact rfl) ?_
  refine v_iconst (v := 2) dX6_takeName_4 (by decide) ?_
  refine v_icmp_eq (tgt := 10) dX6_takeName_5 (by decide) (fun c_5 => ?_) (fun c_5 => ?_)
  · refine v_iconst (v := 0) dX6_takeName_10 (by decide) ?_
    refine v_istore_n (L' := [(2, _), (0, _), (1, _)]) dX6_takeName_11 rfl (Nat.le_of_ble_eq_true rfl) rfl ?_
    refine v_sub (L' := [(2, _), (0, _), (1, _)]) [0, 1, 2] rfl ?_
    exact l_takeName G h z b n k df wd A f tp ht1 ht2 htp hn a e hen hrd d hd fq hA hfq nm hnm n0 kd x1 x2 x3 x4 x5 x6 hru hAb hdf c_5 d 0 (by omega) (fun j hj => absurd hj (Nat.not_lt_zero j))
  · refine v_iconst (v := 0) dX6_takeName_8 (by decide) ?_
    exact v_iret rfl dX6_takeName_9 (Nat.le_of_ble_eq_true rfl) (Nat.le_of_ble_eq_true rfl) rfl ⟨rfl, 0, rfl, Or.inr ⟨rfl, fun q => c_5 q.1, rfl⟩⟩

