theorem iwX10_clear_X10 : ∀ w ∈ wsX100, w ∈ wsX10_clear := by decide +kernel
theorem iwX6_handOver_X6 : ∀ w ∈ wsX60, w ∈ wsX6_handOver := by decide +kernel
theorem iwX11_clear_X11 : ∀ w ∈ wsX110, w ∈ wsX11_clear := by decide +kernel
theorem dX6_handOver_0 : decode cX6_handOver 0 = .ok (.aload_n 0, 1) := by decide +kernel
theorem dX6_handOver_1 : decode cX6_handOver 1 = .ok (.getfield 21, 3) := by decide +kernel
theorem dX6_handOver_4 : decode cX6_handOver 4 = .ok (.astore_n 2, 1) := by decide +kernel
theorem dX6_handOver_5 : decode cX6_handOver 5 = .ok (.aload_n 0, 1) := by decide +kernel
theorem dX6_handOver_6 : decode cX6_handOver 6 = .ok (.aload_n 1, 1) := by decide +kernel
theorem dX6_handOver_7 : decode cX6_handOver 7 = .ok (.putfield 21, 3) := by decide +kernel
theorem dX6_handOver_10 : decode cX6_handOver 10 = .ok (.aload_n 2, 1) := by decide +kernel
theorem dX6_handOver_11 : decode cX6_handOver 11 = .ok (.areturn, 1) := by decide +kernel
theorem dX10_clear_0 : decode cX10_clear 0 = .ok (.aload_n 0, 1) := by decide +kernel
theorem dX10_clear_1 : decode cX10_clear 1 = .ok (.iconst 0, 1) := by decide +kernel
theorem dX10_clear_2 : decode cX10_clear 2 = .ok (.putfield 20, 3) := by decide +kernel
theorem dX10_clear_5 : decode cX10_clear 5 = .ok (.aload_n 0, 1) := by decide +kernel
theorem dX10_clear_6 : decode cX10_clear 6 = .ok (.iconst 0, 1) := by decide +kernel
theorem dX10_clear_7 : decode cX10_clear 7 = .ok (.putfield 24, 3) := by decide +kernel
theorem dX10_clear_10 : decode cX10_clear 10 = .ok (.aload_n 0, 1) := by decide +kernel
theorem dX10_clear_11 : decode cX10_clear 11 = .ok (.iconst 0, 1) := by decide +kernel
theorem dX10_clear_12 : decode cX10_clear 12 = .ok (.putfield 27, 3) := by decide +kernel
theorem dX10_clear_15 : decode cX10_clear 15 = .ok (.return_, 1) := by decide +kernel
theorem dX11_clear_0 : decode cX11_clear 0 = .ok (.aload_n 0, 1) := by decide +kernel
theorem dX11_clear_1 : decode cX11_clear 1 = .ok (.iconst 0, 1) := by decide +kernel
theorem dX11_clear_2 : decode cX11_clear 2 = .ok (.putfield 16, 3) := by decide +kernel
theorem dX11_clear_5 : decode cX11_clear 5 = .ok (.return_, 1) := by decide +kernel
set_option maxRecDepth 20000 in
theorem ggX12_read_X6_handOver : GoodIn wsX12_read wsX6_handOver := goodIn_r _ [151, 16, 179, 180, 181, 182, 183, 184, 185, 186, 187] (by decide +kernel) (by decide +kernel)
set_option maxRecDepth 20000 in
theorem gX12_read_X6_handOver : GoodIn wsX12_read (wsV RX12 91 RX6 yX6_handOver wsX6_handOver) := goodIn_app (goodIn_of _ (by decide +kernel)) ggX12_read_X6_handOver
set_option maxRecDepth 20000 in
theorem ggX12_read_X10_clear : GoodIn wsX12_read wsX10_clear := goodIn_r _ [156, 157, 158, 159, 198, 199, 200, 201, 202, 203, 204] (by decide +kernel) (by decide +kernel)
set_option maxRecDepth 20000 in
theorem gX12_read_X10_clear : GoodIn wsX12_read (wsV RX12 103 RX10 yX10_clear wsX10_clear) := goodIn_app (goodIn_of _ (by decide +kernel)) ggX12_read_X10_clear
set_option maxRecDepth 20000 in
theorem ggX12_read_X11_clear : GoodIn wsX12_read wsX11_clear := goodIn_r _ [164, 165, 205, 206, 207] (by decide +kernel) (by decide +kernel)
set_option maxRecDepth 20000 in
theorem gX12_read_X11_clear : GoodIn wsX12_read (wsV RX12 104 RX11 yX11_clear wsX11_clear) := goodIn_app (goodIn_of _ (by decide +kernel)) ggX12_read_X11_clear

abbrev mX6_handOver : sv_M := (cX6_handOver, 3, yX6_handOver, wsX6_handOver, (some (.array (.object "RuleDeck$Rule"))), { frames := 0, cells := 0, slots := 0, locals := 0 }, [])
abbrev mX10_clear : sv_M := (cX10_clear, 1, yX10_clear, wsX10_clear, none, { frames := 0, cells := 0, slots := 0, locals := 0 }, [])
abbrev mX11_clear : sv_M := (cX11_clear, 1, yX11_clear, wsX11_clear, none, { frames := 0, cells := 0, slots := 0, locals := 0 }, [])
set_option maxHeartbeats 4000000 in
set_option maxRecDepth 100000 in
theorem c_handOver (G : sv_G) (h : sv_h) (z q x A : Nat) (k df w0 s0 a0 e0 : Int32) (v0 : Int64) (o0 : Nat) (hr : h q = some (.inr (4, [.ref x, .int k, .ref A, .int df, .int w0, .int s0, .int a0, .int e0, .long v0]))) : CT G mX6_handOver [.ref q, .ref o0] h z (fun v h1 z1 => v = some (.ref A) ∧ z1 = z ∧ h1 = va_up h q (some (.inr (4, [.ref x, .int k, .ref o0, .int df, .int w0, .int s0, .int a0, .int e0, .long v0])))) := by
  refine CT.of (by decide +kernel) rfl rfl (Nat.le_of_ble_eq_true rfl) ?_
  refine v_aload_n dX6_handOver_0 rfl 0 rfl ?_
  refine v_getf 2 (ci := 4) (C := RX6) (T := TX6) (N := 9) rfl iwX6_handOver_X6 (Nat.le_of_ble_eq_true rfl) (by decide +kernel) dX6_handOver_1 (by repeat (first | (with_reducible refine sv_us.trans ?_; exact rfl) | with_reducible assumption | with_reducible refine (sv_un (by omega)).trans ?_)) (by exact rfl) ?_
  refine v_astore_n (L' := [(2, _), (0, _), (1, _)]) dX6_handOver_4 rfl (Nat.le_of_ble_eq_true rfl) rfl ?_
  refine v_aload_n dX6_handOver_5 rfl 1 rfl ?_
  refine v_aload_n dX6_handOver_6 rfl 2 rfl ?_
  refine v_putf 2 (fs' := [_, _, _, _, _, _, _, _, _]) (ci := 4) (C := RX6) (T := TX6) (N := 9) (ty := (.array (.object "RuleDeck$Rule"))) rfl iwX6_handOver_X6 tyX6 tyX6_ok nmX6 (Nat.le_of_ble_eq_true rfl) (by decide +kernel) rfl rfl dX6_handOver_7 rfl rfl (by repeat (first | (with_reducible refine sv_us.trans ?_; exact rfl) | with_reducible assumption | with_reducible refine (sv_un (by omega)).trans ?_)) (Nat.le_of_ble_eq_true rfl) rfl ?_
  refine v_aload_n dX6_handOver_10 rfl 0 rfl ?_
  exact v_aret rfl (by first | exact Or.inl ⟨_, rfl⟩ | exact Or.inr ⟨_, rfl⟩) dX6_handOver_11 (Nat.le_of_ble_eq_true rfl) (Nat.le_of_ble_eq_true rfl) ⟨rfl, rfl, rfl⟩

set_option maxHeartbeats 4000000 in
set_option maxRecDepth 100000 in
theorem c_Told_clear (G : sv_G) (h : sv_h) (z q : Nat) (x0 x2 x3 : Value) (us sz ov hm : Int32) (hr : h q = some (.inr (8, [x0, .int us, x2, x3, .int sz, .int ov, .int hm]))) : CT G mX10_clear [.ref q] h z (fun v h1 z1 => v = none ∧ z1 = z ∧ h1 q = some (.inr (8, [x0, .int 0, x2, x3, .int 0, .int 0, .int hm])) ∧ ∀ w, w ≠ q → h1 w = h w) := by
  refine CT.of (by decide +kernel) rfl rfl (Nat.le_of_ble_eq_true rfl) ?_
  refine v_aload_n dX10_clear_0 rfl 0 rfl ?_
  refine v_iconst (v := 0) dX10_clear_1 (by decide) ?_
  refine v_putf 1 (fs' := [_, _, _, _, _, _, _]) (ci := 8) (C := RX10) (T := TX10) (N := 7) (ty := .int) rfl iwX10_clear_X10 tyX10 tyX10_ok nmX10 (Nat.le_of_ble_eq_true rfl) (by decide +kernel) rfl rfl dX10_clear_2 rfl rfl (by repeat (first | (with_reducible refine sv_us.trans ?_; exact rfl) | with_reducible assumption | with_reducible refine (sv_un (by omega)).trans ?_)) (Nat.le_of_ble_eq_true rfl) rfl ?_
  refine v_aload_n dX10_clear_5 rfl 0 rfl ?_
  refine v_iconst (v := 0) dX10_clear_6 (by decide) ?_
  refine v_putf 4 (fs' := [_, _, _, _, _, _, _]) (ci := 8) (C := RX10) (T := TX10) (N := 7) (ty := .int) rfl iwX10_clear_X10 tyX10 tyX10_ok nmX10 (Nat.le_of_ble_eq_true rfl) (by decide +kernel) rfl rfl dX10_clear_7 rfl rfl (by repeat (first | (with_reducible refine sv_us.trans ?_; exact rfl) | with_reducible assumption | with_reducible refine (sv_un (by omega)).trans ?_)) (Nat.le_of_ble_eq_true rfl) rfl ?_
  refine v_aload_n dX10_clear_10 rfl 0 rfl ?_
  refine v_iconst (v := 0) dX10_clear_11 (by decide) ?_
  refine v_putf 5 (fs' := [_, _, _, _, _, _, _]) (ci := 8) (C := RX10) (T := TX10) (N := 7) (ty := .boolean) rfl iwX10_clear_X10 tyX10 tyX10_ok nmX10 (Nat.le_of_ble_eq_true rfl) (by decide +kernel) rfl rfl dX10_clear_12 rfl rfl (by repeat (first | (with_reducible refine sv_us.trans ?_; exact rfl) | with_reducible assumption | with_reducible refine (sv_un (by omega)).trans ?_)) (Nat.le_of_ble_eq_true rfl) rfl ?_
  exact v_ret rfl dX10_clear_15 (Nat.le_of_ble_eq_true rfl) (Nat.le_of_ble_eq_true rfl) ⟨rfl, rfl, sv_us, fun w p => (sv_un p).trans ((sv_un p).trans (sv_un p))⟩

set_option maxHeartbeats 4000000 in
set_option maxRecDepth 100000 in
theorem c_Waivers_clear (G : sv_G) (h : sv_h) (z q : Nat) (x0 x1 : Value) (n : Int32) (hr : h q = some (.inr (9, [x0, x1, .int n]))) : CT G mX11_clear [.ref q] h z (fun v h1 z1 => v = none ∧ z1 = z ∧ h1 = va_up h q (some (.inr (9, [x0, x1, .int 0])))) := by
  refine CT.of (by decide +kernel) rfl rfl (Nat.le_of_ble_eq_true rfl) ?_
  refine v_aload_n dX11_clear_0 rfl 0 rfl ?_
  refine v_iconst (v := 0) dX11_clear_1 (by decide) ?_
  refine v_putf 2 (fs' := [_, _, _]) (ci := 9) (C := RX11) (T := TX11) (N := 3) (ty := .int) rfl iwX11_clear_X11 tyX11 tyX11_ok nmX11 (Nat.le_of_ble_eq_true rfl) (by decide +kernel) rfl rfl dX11_clear_2 rfl rfl (by repeat (first | (with_reducible refine sv_us.trans ?_; exact rfl) | with_reducible assumption | with_reducible refine (sv_un (by omega)).trans ?_)) (Nat.le_of_ble_eq_true rfl) rfl ?_
  exact v_ret rfl dX11_clear_5 (Nat.le_of_ble_eq_true rfl) (Nat.le_of_ble_eq_true rfl) ⟨rfl, rfl, rfl⟩

theorem rd_neg {e : Nat} (h : e ≤ 600) : -1 - nI e < 0 := by
  have q := nI_toInt (n := e) (by omega)
  rw [Int32.lt_iff_toInt_lt, Int32.toInt_sub, q, show (-1 : Int32).toInt = -1 by decide, show (0 : Int32).toInt = 0 by decide, Int.bmod_eq_of_le (by omega) (by omega)]
  omega
set_option maxHeartbeats 4000000 in
set_option maxRecDepth 100000 in
theorem c_read (G : sv_G) (h : sv_h) (z b n : Nat) (tp : Nat → Int32) (k : Int32) (ru rd la fo fl : Nat) (nr lX lf : Int32) (x0 y2 y3 : Value) (us sz ov hm : Int32) (w0 w1 : Value) (wn : Int32) (hD : h b = some (.inr (10, [.ref (b + 1), .ref (b + 8), .ref (b + 10), .ref (b + 32), .ref (b + 180), .ref ru, .int nr, .int lX, .int lf, .ref la, .ref fo, .ref fl, .ref (b + 216)]))) (Y : cy_ G b n tp h rd) (hR : ab_Rdr G h b rd k) (hro : ∀ i, i < 20 → ∃ (n0 : Int64) (kd : Nat) (x1 x2 x3 x4 x5 x6 : Int32), kd < 11 ∧ h (rd + 1 + i) = some (.inr (5, [.long n0, .ref (G.2.2.2.2.1 kd), .int x1, .int x2, .int x3, .int x4, .int x5, .int x6]))) (hadr : (ru = b + 183 ∧ rd = b + 11) ∨ (ru = b + 11 ∧ rd = b + 183)) (hla : ∃ i, i < 3 ∧ la = b + 204 + 4 * i) (hT : h la = some (.inr (8, [x0, .int us, y2, y3, .int sz, .int ov, .int hm]))) (hW : h (b + 180) = some (.inr (9, [w0, w1, .int wn]))) : CT G mX12_read [.ref b] h z (fun v h1 z1 => z1 = z ∧ (∀ i, i < 20 → ∃ (n0 : Int64) (kd : Nat) (x1 x2 x3 x4 x5 x6 : Int32), kd < 11 ∧ h1 (rd + 1 + i) = some (.inr (5, [.long n0, .ref (G.2.2.2.2.1 kd), .int x1, .int x2, .int x3, .int x4, .int x5, .int x6]))) ∧ h1 (b + 8) = some (.inr (7, [.ref (b + 9), .int 0])) ∧ ((∃ (d1 : Nat) (r1 : Nat → Nat → Int32), rd_all n tp k 20 0 (fun _ => 0) (fun _ _ => 0) 0 = .inr (d1, r1) ∧ d1 ≤ 20 ∧ v = some (.int (nI d1)) ∧ h1 b = some (.inr (10, [.ref (b + 1), .ref (b + 8), .ref (b + 10), .ref (b + 32), .ref (b + 180), .ref rd, .int (nI d1), .int lX, .int 0, .ref la, .ref fo, .ref fl, .ref (b + 216)])) ∧ ab_Rdr G h1 b ru k ∧ h1 la = some (.inr (8, [x0, .int 0, y2, y3, .int 0, .int 0, .int hm])) ∧ h1 (b + 180) = some (.inr (9, [w0, w1, .int 0])) ∧ (∀ i, i < d1 → ∃ (nm : Int64) (kd : Nat), kd < 11 ∧ r1 0 i = nI kd ∧ h1 (rd + 1 + i) = some (.inr (5, [.long nm, .ref (G.2.2.2.2.1 kd), .int (r1 1 i), .int (r1 2 i), .int (r1 3 i), .int (r1 4 i), .int (r1 5 i), .int (r1 6 i)]))) ∧ (∀ w, w ≠ b → w ≠ b + 8 → w ≠ b + 10 → w ≠ la → w ≠ b + 180 → ¬ (rd + 1 ≤ w ∧ w < rd + 21) → h1 w = h w)) ∨ (∃ e : Nat, rd_all n tp k 20 0 (fun _ => 0) (fun _ _ => 0) 0 = .inl e ∧ v = some (.int (-1 - nI e)) ∧ ab_Rdr G h1 b rd k ∧ ∀ w, w ≠ b + 8 → w ≠ b + 10 → ¬ (rd + 1 ≤ w ∧ w < rd + 21) → h1 w = h w))) := by
  refine CT.of (by decide +kernel) rfl rfl (Nat.le_of_ble_eq_true rfl) ?_
  have hA := hadr
  obtain ⟨il, hil, hla2⟩ := hla
  obtain ⟨_, _, _, _, _, _, hrd0⟩ := id hR
  refine v_aload_n dX12_read_0 rfl 0 rfl ?_
  refine v_getf 2 (ci := 10) (C := RX12) (T := TX12) (N := 13) rfl iwX12_read_X12 (Nat.le_of_ble_eq_true rfl) (by decide +kernel) dX12_read_1 (by repeat (first | with_reducible assumption | (with_reducible refine sv_us.trans ?_; exact rfl) | with_reducible refine (sv_un (by omega)).trans ?_ | with_reducible refine (tl2 _ (by omega)).trans ?_)) (by exact rfl) ?_
  refine v_callVq (M' := mX6_parse) (n := 0) (As := []) (ci := 4) (r := (RX6, TX6, 9)) gX12_read_X6_parse rfl (by decide +kernel) ⟨(Nat.le_of_ble_eq_true rfl), (Nat.le_of_ble_eq_true rfl)⟩ rfl rfl dX12_read_4 rfl ⟨(Nat.le_of_ble_eq_true rfl), (Nat.le_of_ble_eq_true rfl)⟩ (Nat.le_of_ble_eq_true rfl) (by repeat (first | with_reducible assumption | (with_reducible refine sv_us.trans ?_; exact rfl) | with_reducible refine (sv_un (by omega)).trans ?_ | with_reducible refine (tl2 _ (by omega)).trans ?_)) rfl (c_parse G h z b n tp k rd Y hR hro) (fun v h1 z1 hq => ?_)
  obtain ⟨rfl, hq⟩ := hq
  have hq9 : ∃ (a : Int32) (d1 j1 : Nat), v = some (.int a) ∧ h1 (b + 10) = rd_at b k (nI d1) rd n tp j1 ∧ cv_ G b rd h h1 ∧ ((∃ (r1 : Nat → Nat → Int32) (nm1 : Nat → Int64), rd_all n tp k 20 0 (fun _ => 0) (fun _ _ => 0) 0 = .inr (d1, r1) ∧ a = nI d1 ∧ d1 ≤ 20 ∧ cp_ G b n tp k rd h h1 j1 d1 nm1 r1) ∨ (∃ e : Nat, rd_all n tp k 20 0 (fun _ => 0) (fun _ _ => 0) 0 = .inl e ∧ e ≤ 600 ∧ a = -1 - nI e)) := by
    rcases hq with ⟨d1, r1, j1, nm1, q1, q2, q3, q4⟩ | ⟨e, d1, j1, q1, q2, q3, q4, q5⟩
    · exact ⟨_, d1, j1, q2, q4.1, q4.2.1, Or.inl ⟨r1, nm1, q1, rfl, q3, q4⟩⟩
    · exact ⟨_, d1, j1, q3, q4, q5, Or.inr ⟨e, q1, q2, rfl⟩⟩
  clear hq
  obtain ⟨a, d1, j1, rfl, hrd1, Hv, hq⟩ := hq9
  have hD1 := (Hv.2 b (by omega) (by omega)).trans hD
  have hT1 := (Hv.2 (b + 8) (by omega) (by omega)).trans Y.2.2.1
  have hLa1 := (Hv.2 la (by omega) (by omega)).trans hT
  have hW1 := (Hv.2 (b + 180) (by omega) (by omega)).trans hW
  refine v_istore_n (L' := [(1, _), (0, _)]) dX12_read_7 rfl (Nat.le_of_ble_eq_true rfl) rfl ?_
  refine v_aload_n dX12_read_8 rfl 1 rfl ?_
  refine v_getf 1 (ci := 10) (C := RX12) (T := TX12) (N := 13) rfl iwX12_read_X12 (Nat.le_of_ble_eq_true rfl) (by decide +kernel) dX12_read_9 (by repeat (first | with_reducible assumption | (with_reducible refine sv_us.trans ?_; exact rfl) | with_reducible refine (sv_un (by omega)).trans ?_ | with_reducible refine (tl2 _ (by omega)).trans ?_)) (by exact rfl) ?_
  refine v_callVq (M' := mX9_clear) (n := 0) (As := []) (ci := 7) (r := (RX9, TX9, 2)) gX12_read_X9_clear rfl (by decide +kernel) ⟨(Nat.le_of_ble_eq_true rfl), (Nat.le_of_ble_eq_true rfl)⟩ rfl rfl dX12_read_12 rfl ⟨(Nat.le_of_ble_eq_true rfl), (Nat.le_of_ble_eq_true rfl)⟩ (Nat.le_of_ble_eq_true rfl) (by repeat (first | with_reducible assumption | (with_reducible refine sv_us.trans ?_; exact rfl) | with_reducible refine (sv_un (by omega)).trans ?_ | with_reducible refine (tl2 _ (by omega)).trans ?_)) rfl (c_Tape_clear G h1 _ (b + 8) _ _ hT1) (fun v h2 z2 hq9 => ?_)
  obtain ⟨rfl, rfl, rfl⟩ := hq9
  refine v_iload_n dX12_read_15 rfl 0 rfl ?_
  refine v_if_lt (tgt := 58) dX12_read_16 (by decide) (fun c_16 => ?_) (fun c_16 => ?_)
  · refine v_iload_n dX12_read_58 rfl 0 rfl ?_
    exact v_iret rfl dX12_read_59 (Nat.le_of_ble_eq_true rfl) (Nat.le_of_ble_eq_true rfl) rfl (by
      rcases hq with ⟨r1, nm1, q1, rfl, q3, q4⟩ | ⟨e, q1, q2, rfl⟩
      · exact absurd c_16 (nI_pos (by omega))
      · refine ⟨rfl, fun i hi => ?_, sv_us, Or.inr ⟨e, q1, rfl, ⟨_, _, _, _, _, _, (sv_un (by omega)).trans hrd1⟩, fun w p1 p2 p3 => (sv_un p1).trans (Hv.2 w p2 p3)⟩⟩
        obtain ⟨m0, ke, u1, u2, u3, u4, u5, u6, s1, s2⟩ := Hv.1 i hi
        exact ⟨m0, ke, u1, u2, u3, u4, u5, u6, s1, (sv_un (by omega)).trans s2⟩)
  · refine v_aload_n dX12_read_19 rfl 1 rfl ?_
    refine v_aload_n dX12_read_20 rfl 1 rfl ?_
    refine v_getf 2 (ci := 10) (C := RX12) (T := TX12) (N := 13) rfl iwX12_read_X12 (Nat.le_of_ble_eq_true rfl) (by decide +kernel) dX12_read_21 (by repeat (first | with_reducible assumption | (with_reducible refine sv_us.trans ?_; exact rfl) | with_reducible refine (sv_un (by omega)).trans ?_ | with_reducible refine (tl2 _ (by omega)).trans ?_)) (by exact rfl) ?_
    refine v_aload_n dX12_read_24 rfl 1 rfl ?_
    refine v_getf 5 (ci := 10) (C := RX12) (T := TX12) (N := 13) rfl iwX12_read_X12 (Nat.le_of_ble_eq_true rfl) (by decide +kernel) dX12_read_25 (by repeat (first | with_reducible assumption | (with_reducible refine sv_us.trans ?_; exact rfl) | with_reducible refine (sv_un (by omega)).trans ?_ | with_reducible refine (tl2 _ (by omega)).trans ?_)) (by exact rfl) ?_
    refine v_callVq (M' := mX6_handOver) (n := 1) (As := [_]) (ci := 4) (r := (RX6, TX6, 9)) gX12_read_X6_handOver rfl (by decide +kernel) ⟨(Nat.le_of_ble_eq_true rfl), (Nat.le_of_ble_eq_true rfl)⟩ rfl rfl dX12_read_28 rfl ⟨(Nat.le_of_ble_eq_true rfl), (Nat.le_of_ble_eq_true rfl)⟩ (Nat.le_of_ble_eq_true rfl) (by repeat (first | with_reducible assumption | (with_reducible refine sv_us.trans ?_; exact rfl) | with_reducible refine (sv_un (by omega)).trans ?_ | with_reducible refine (tl2 _ (by omega)).trans ?_)) rfl (c_handOver G _ _ (b + 10) _ _ _ _ _ _ _ _ _ ru ((sv_un (by omega)).trans (hrd1))) (fun v h2 z2 hq9 => ?_)
    obtain ⟨rfl, rfl, rfl⟩ := hq9
    refine v_putf 5 (fs' := [_, _, _, _, _, _, _, _, _, _, _, _, _]) (ci := 10) (C := RX12) (T := TX12) (N := 13) (ty := (.array (.object "RuleDeck$Rule"))) rfl iwX12_read_X12 tyX12 tyX12_ok nmX12 (Nat.le_of_ble_eq_true rfl) (by decide +kernel) rfl rfl dX12_read_31 rfl rfl (by repeat (first | with_reducible assumption | (with_reducible refine sv_us.trans ?_; exact rfl) | with_reducible refine (sv_un (by omega)).trans ?_ | with_reducible refine (tl2 _ (by omega)).trans ?_)) (Nat.le_of_ble_eq_true rfl) rfl ?_
    refine v_aload_n dX12_read_34 rfl 1 rfl ?_
    refine v_iload_n dX12_read_35 rfl 0 rfl ?_
    refine v_putf 6 (fs' := [_, _, _, _, _, _, _, _, _, _, _, _, _]) (ci := 10) (C := RX12) (T := TX12) (N := 13) (ty := .int) rfl iwX12_read_X12 tyX12 tyX12_ok nmX12 (Nat.le_of_ble_eq_true rfl) (by decide +kernel) rfl rfl dX12_read_36 rfl rfl (by repeat (first | with_reducible assumption | (with_reducible refine sv_us.trans ?_; exact rfl) | with_reducible refine (sv_un (by omega)).trans ?_ | with_reducible refine (tl2 _ (by omega)).trans ?_)) (Nat.le_of_ble_eq_true rfl) rfl ?_
    refine v_aload_n dX12_read_39 rfl 1 rfl ?_
    refine v_iconst (v := 0) dX12_read_40 (by decide) ?_
    refine v_putf 8 (fs' := [_, _, _, _, _, _, _, _, _, _, _, _, _]) (ci := 10) (C := RX12) (T := TX12) (N := 13) (ty := .boolean) rfl iwX12_read_X12 tyX12 tyX12_ok nmX12 (Nat.le_of_ble_eq_true rfl) (by decide +kernel) rfl rfl dX12_read_41 rfl rfl (by repeat (first | with_reducible assumption | (with_reducible refine sv_us.trans ?_; exact rfl) | with_reducible refine (sv_un (by omega)).trans ?_ | with_reducible refine (tl2 _ (by omega)).trans ?_)) (Nat.le_of_ble_eq_true rfl) rfl ?_
    refine v_aload_n dX12_read_44 rfl 1 rfl ?_
    refine v_getf 9 (ci := 10) (C := RX12) (T := TX12) (N := 13) rfl iwX12_read_X12 (Nat.le_of_ble_eq_true rfl) (by decide +kernel) dX12_read_45 (by repeat (first | with_reducible assumption | (with_reducible refine sv_us.trans ?_; exact rfl) | with_reducible refine (sv_un (by omega)).trans ?_ | with_reducible refine (tl2 _ (by omega)).trans ?_)) (by exact rfl) ?_
    refine v_callVq (M' := mX10_clear) (n := 0) (As := []) (ci := 8) (r := (RX10, TX10, 7)) gX12_read_X10_clear rfl (by decide +kernel) ⟨(Nat.le_of_ble_eq_true rfl), (Nat.le_of_ble_eq_true rfl)⟩ rfl rfl dX12_read_48 rfl ⟨(Nat.le_of_ble_eq_true rfl), (Nat.le_of_ble_eq_true rfl)⟩ (Nat.le_of_ble_eq_true rfl) (by repeat (first | with_reducible assumption | (with_reducible refine sv_us.trans ?_; exact rfl) | with_reducible refine (sv_un (by omega)).trans ?_ | with_reducible refine (tl2 _ (by omega)).trans ?_)) rfl (c_Told_clear G _ _ la _ _ _ _ _ _ _ ((sv_un (by omega)).trans ((sv_un (by omega)).trans ((sv_un (by omega)).trans ((sv_un (by omega)).trans ((sv_un (by omega)).trans (hLa1))))))) (fun v h3 z2 hq9 => ?_)
    obtain ⟨rfl, rfl, tl1, tl2⟩ := hq9
    refine v_aload_n dX12_read_51 rfl 1 rfl ?_
    refine v_getf 4 (ci := 10) (C := RX12) (T := TX12) (N := 13) rfl iwX12_read_X12 (Nat.le_of_ble_eq_true rfl) (by decide +kernel) dX12_read_52 (by repeat (first | with_reducible assumption | (with_reducible refine sv_us.trans ?_; exact rfl) | with_reducible refine (sv_un (by omega)).trans ?_ | with_reducible refine (tl2 _ (by omega)).trans ?_)) (by exact rfl) ?_
    refine v_callVq (M' := mX11_clear) (n := 0) (As := []) (ci := 9) (r := (RX11, TX11, 3)) gX12_read_X11_clear rfl (by decide +kernel) ⟨(Nat.le_of_ble_eq_true rfl), (Nat.le_of_ble_eq_true rfl)⟩ rfl rfl dX12_read_55 rfl ⟨(Nat.le_of_ble_eq_true rfl), (Nat.le_of_ble_eq_true rfl)⟩ (Nat.le_of_ble_eq_true rfl) (by repeat (first | with_reducible assumption | (with_reducible refine sv_us.trans ?_; exact rfl) | with_reducible refine (sv_un (by omega)).trans ?_ | with_reducible refine (tl2 _ (by omega)).trans ?_)) rfl (c_Waivers_clear G h3 _ (b + 180) _ _ _ ((tl2 _ (by omega)).trans ((sv_un (by omega)).trans ((sv_un (by omega)).trans ((sv_un (by omega)).trans ((sv_un (by omega)).trans ((sv_un (by omega)).trans (hW1)))))))) (fun v h4 z2 hq9 => ?_)
    obtain ⟨rfl, rfl, rfl⟩ := hq9
    refine v_iload_n dX12_read_58 rfl 0 rfl ?_
    exact v_iret rfl dX12_read_59 (Nat.le_of_ble_eq_true rfl) (Nat.le_of_ble_eq_true rfl) rfl (by
      rcases hq with ⟨r1, nm1, q1, rfl, q3, q4⟩ | ⟨e, q1, q2, rfl⟩
      · refine ⟨rfl, fun i hi => ?_, (sv_un (by omega)).trans ((tl2 _ (by omega)).trans ((sv_un (by omega)).trans ((sv_un (by omega)).trans ((sv_un (by omega)).trans ((sv_un (by omega)).trans (sv_us)))))), Or.inl ⟨d1, r1, q1, q3, rfl, (sv_un (by omega)).trans ((tl2 _ (by omega)).trans sv_us), ⟨_, _, _, _, _, _, (sv_un (by omega)).trans ((tl2 _ (by omega)).trans ((sv_un (by omega)).trans ((sv_un (by omega)).trans ((sv_un (by omega)).trans (sv_us)))))⟩, (sv_un (by omega)).trans tl1, sv_us, fun i hi => ?_, fun w p1 p2 p3 p4 p5 p6 => ?_⟩⟩
        · obtain ⟨m0, ke, u1, u2, u3, u4, u5, u6, s1, s2⟩ := Hv.1 i hi
          exact ⟨m0, ke, u1, u2, u3, u4, u5, u6, s1, (sv_un (by omega)).trans ((tl2 _ (by omega)).trans ((sv_un (by omega)).trans ((sv_un (by omega)).trans ((sv_un (by omega)).trans ((sv_un (by omega)).trans ((sv_un (by omega)).trans (s2)))))))⟩
        · obtain ⟨ke, s1, s2, s3⟩ := q4.2.2 i hi
          exact ⟨_, ke, s1, s2, (sv_un (by omega)).trans ((tl2 _ (by omega)).trans ((sv_un (by omega)).trans ((sv_un (by omega)).trans ((sv_un (by omega)).trans ((sv_un (by omega)).trans ((sv_un (by omega)).trans (s3)))))))⟩
        · exact (sv_un p5).trans ((tl2 w p4).trans ((sv_un p1).trans ((sv_un p1).trans ((sv_un p1).trans ((sv_un p3).trans ((sv_un p2).trans (Hv.2 w p3 p6)))))))
      · exact absurd (rd_neg q2) c_16)

set_option maxHeartbeats 4000000 in
set_option maxRecDepth 100000 in
theorem ab_Inv_rdS (G : sv_G) (b : Nat) (h h1 h2 : sv_h) (z : Nat) (k : Int32) (nc np pl : Nat) (sz : Nat → Nat) (t : Nat → Nat → Int32) (u : Nat → Nat → Nat → Int32) (pa ma : Nat → Nat) (tn : Nat) (tp : Nat → Int32) (nr : Nat) (r : Nat → Nat → Int32) (ru rd nl : Nat) (lr : Nat → Int64) (la fo fl nw : Nat) (wr : Nat → Int64) (lX lq lf mf : Int32) (F : List Value) (d1 : Nat) (rr : Nat → Nat → Int32) (ak aa ab : Nat → Int32) (al ar av ae nm1 : Nat → Int64) (x0 y2 y3 : Value) (us sz0 ov hm : Int32) (w0 w1 : Value) (wn : Int32) (gok : ab_ok nc np pl sz t u) (gLay : ab_Lay G h b k nc np pl sz t u pa ma) (gAd : ab_ad b np pl z pa ma) (gML : ab_MLay G h b nc np pl sz t u) (gRu : ab_rows G h ru (ru + 1)) (gRd : ab_rows G h rd (rd + 1)) (gRl : ab_Rule G h (ru + 1) nr r) (gLa : ab_late G h la nl lr) (gFo : ab_any G h fo) (gFl : ab_any G h fl) (gLo : ab_any G h (b + 216)) (gMLa : ab_MLate G h b nl lr) (gWv : ab_wv G h b nw wr) (gMWv : ab_MWv G h b nw wr) (gDk : ab_Dk G h b nr lX lf ru rd la fo fl) (gmf : (mf = 0 ∨ mf = 1) ∧ ∀ i, i < d1 → ab_cd rr i) (gCk : ab_Chk G h b) (gSc : ab_MScr G h b) {f0 : Nat → Int64} (ho : h (b + 261) = some (.inl (G.2.2.1 1, 1, .inr (.inl f0)))) (FR : ∀ w, w ≠ b → w ≠ b + 8 → w ≠ b + 10 → w ≠ la → w ≠ b + 180 → ¬ (rd + 1 ≤ w ∧ w < rd + 21) → h1 w = h w) (Ra : ∀ i, i < 20 → ∃ (n0 : Int64) (kd : Nat) (x1 x2 x3 x4 x5 x6 : Int32), kd < 11 ∧ h1 (rd + 1 + i) = some (.inr (5, [.long n0, .ref (G.2.2.2.2.1 kd), .int x1, .int x2, .int x3, .int x4, .int x5, .int x6]))) (T8 : h1 (b + 8) = some (.inr (7, [.ref (b + 9), .int 0]))) (q2 : d1 ≤ 20) (q4 : h1 b = some (.inr (10, [.ref (b + 1), .ref (b + 8), .ref (b + 10), .ref (b + 32), .ref (b + 180), .ref rd, .int (nI d1), .int lX, .int 0, .ref la, .ref fo, .ref fl, .ref (b + 216)]))) (q5 : ab_Rdr G h1 b ru k) (gt1 : h la = some (.inr (8, [x0, .int us, y2, y3, .int sz0, .int ov, .int hm]))) (q6 : h1 la = some (.inr (8, [x0, .int 0, y2, y3, .int 0, .int 0, .int hm]))) (gw2 : h (b + 180) = some (.inr (9, [w0, w1, .int wn]))) (q7 : h1 (b + 180) = some (.inr (9, [w0, w1, .int 0]))) (q8 : ∀ i, i < d1 → ∃ (nm : Int64) (kd : Nat), kd < 11 ∧ rr 0 i = nI kd ∧ h1 (rd + 1 + i) = some (.inr (5, [.long nm, .ref (G.2.2.2.2.1 kd), .int (rr 1 i), .int (rr 2 i), .int (rr 3 i), .int (rr 4 i), .int (rr 5 i), .int (rr 6 i)]))) (m1 : ∀ w, w ≠ b + 220 → ¬ (b + 233 ≤ w ∧ w ≤ b + 240) → h2 w = h1 w) (u4 : h2 (b + 220) = some (.inr (11, F))) (u5 : ma_ G h2 b ak aa ab al ar av ae nm1) (u6 : ∀ i, i < d1 → ak i = rr 0 i ∧ aa i = rr 1 i ∧ ab i = rr 2 i ∧ al i = (rr 3 i).toInt64 ∧ ar i = (if rr 4 i < 1 then 1 else rr 4 i).toInt64 ∧ av i = (rr 5 i).toInt64 ∧ ae i = (rr 6 i).toInt64) (gMTp : ab_MTape G h b tn tp) (gTp : ab_Tape G h b tn tp) (gfs : ab_fs b k nc np pl 0 d1 0 (-1) mf 0 F) : ab_Inv G b h2 z := by
  obtain ⟨gru, i1, i2, i3, i4, i5, i6, i7, i8, i9, gla, gfo, gfl⟩ := gDk.2
  have gz := gAd.1
  obtain ⟨c1, c2, c3, c4, c5, c6, c7, c8⟩ := id u5
  have e : ∀ a, a ≠ b → a ≠ b + 8 → a ≠ b + 10 → a ≠ la → a ≠ b + 180 → ¬ (rd + 1 ≤ a ∧ a < rd + 21) → a ≠ b + 220 → ¬ (b + 233 ≤ a ∧ a ≤ b + 240) → h2 a = h a := fun a a1 a2 a3 a4 a5 a6 a7 a8 => (m1 a a7 a8).trans (FR a a1 a2 a3 a4 a5 a6)
  obtain ⟨fq, fq1, fq2⟩ := gRd
  obtain ⟨_, xl, ro, od, st, us', ov', hm', wl_, ⟨gx, gt1', gt2, gt3, gt4⟩, gtw⟩ := gLa
  obtain ⟨gw1, gw2', ⟨fw, gw3, gw4⟩, ⟨fw2, gw5⟩⟩ := gWv
  obtain ⟨t1, t2, ⟨f, t3, t4⟩, t5⟩ := gTp
  obtain ⟨f', s1, s2⟩ := gMTp
  obtain ⟨fml, gml, _⟩ := gMLa
  obtain ⟨fmw, gmw, _⟩ := gMWv
  have gla_ : ∃ i, i < 3 ∧ la = b + 204 + 4 * i := ⟨i1, i4, gla⟩
  have E1 := gt1.symm.trans gt1'
  have E2 := gw2.symm.trans gw2'
  simp only [Option.some.injEq, Sum.inr.injEq, Prod.mk.injEq, List.cons.injEq, true_and] at E1 E2
  obtain ⟨rfl, _, rfl, rfl, _⟩ := E1
  obtain ⟨rfl, rfl, _⟩ := E2
  have H1 : ab_Lay G h2 b k nc np pl sz t u pa ma := gLay.kept gAd (fun a q1 q2 => e a (by omega) (by omega) (by omega) (by omega) (by omega) (by omega) (by omega) (by omega)) (fun a q1 q2 => e a (by omega) (by omega) (by omega) (by omega) (by omega) (by omega) (by omega) (by omega))
  have H2 : ab_MLay G h2 b nc np pl sz t u := gML.kept (fun a q1 q2 => e a (by omega) (by omega) (by omega) (by omega) (by omega) (by omega) (by omega) (by omega))
  have H3 : ab_Tape G h2 b 0 tp := ⟨Nat.zero_le _, (m1 _ (by omega) (by omega)).trans T8, ⟨f, (e _ (by omega) (by omega) (by omega) (by omega) (by omega) (by omega) (by omega) (by omega)).trans t3, fun i hi => absurd hi (Nat.not_lt_zero i)⟩, fun i hi => absurd hi (Nat.not_lt_zero i)⟩
  have H4 : ab_MTape G h2 b 0 tp := ⟨f', (e _ (by omega) (by omega) (by omega) (by omega) (by omega) (by omega) (by omega) (by omega)).trans s1, fun i hi => absurd hi (Nat.not_lt_zero i)⟩
  have H5 : ab_rows G h2 rd (rd + 1) := ⟨fq, (e _ (by omega) (by omega) (by omega) (by omega) (by omega) (by omega) (by omega) (by omega)).trans fq1, fun j hj => ⟨(fq2 j hj).1, by
    obtain ⟨n0, kd, x1, x2, x3, x4, x5, x6, s1, s2⟩ := Ra j hj
    exact ⟨n0, kd, x1, x2, x3, x4, x5, x6, s1, (m1 _ (by omega) (by omega)).trans s2⟩⟩⟩
  have H6 : ab_rows G h2 ru (ru + 1) := gRu.kept (by omega) (fun a q1 q2 => e a (by omega) (by omega) (by omega) (by omega) (by omega) (by omega) (by omega) (by omega))
  have H7 : ab_Rule G h2 (rd + 1) d1 rr := ⟨q2, fun i hi => by
    obtain ⟨nm, kd, s1, s2, s3⟩ := q8 i hi
    exact ⟨nm, kd, s1, s2, (m1 _ (by omega) (by omega)).trans s3⟩⟩
  have H8 : ab_Rdr G h2 b ru k := q5.kept (fun a q1 q2 => m1 a (by omega) (by omega))
  have H9 : ab_MRule G h2 b d1 rr := ⟨⟨_, c1, fun i hi => (u6 i hi).1⟩, ⟨_, c2, fun i hi => (u6 i hi).2.1⟩, ⟨_, c3, fun i hi => (u6 i hi).2.2.1⟩, ⟨_, c4, fun i hi => (u6 i hi).2.2.2.1⟩, ⟨_, c5, fun i hi => (u6 i hi).2.2.2.2.1⟩, ⟨_, c6, fun i hi => (u6 i hi).2.2.2.2.2.1⟩, ⟨_, c7, fun i hi => (u6 i hi).2.2.2.2.2.2⟩, ⟨_, c8⟩⟩
  have H10 : ab_late G h2 la 0 lr := ⟨Nat.zero_le _, xl, ro, od, st, 0, 0, hm, wl_, ⟨gx, (m1 _ (by omega) (by omega)).trans q6, (e _ (by omega) (by omega) (by omega) (by omega) (by omega) (by omega) (by omega) (by omega)).trans gt2, (e _ (by omega) (by omega) (by omega) (by omega) (by omega) (by omega) (by omega) (by omega)).trans gt3, (e _ (by omega) (by omega) (by omega) (by omega) (by omega) (by omega) (by omega) (by omega)).trans gt4⟩, fun i hi => absurd hi (Nat.not_lt_zero i)⟩
  have H11 : ab_any G h2 fo := gFo.kept (fun a q1 q2 => e a (by omega) (by omega) (by omega) (by omega) (by omega) (by omega) (by omega) (by omega))
  have H12 : ab_any G h2 fl := gFl.kept (fun a q1 q2 => e a (by omega) (by omega) (by omega) (by omega) (by omega) (by omega) (by omega) (by omega))
  have H13 : ab_any G h2 (b + 216) := gLo.kept (fun a q1 q2 => e a (by omega) (by omega) (by omega) (by omega) (by omega) (by omega) (by omega) (by omega))
  have H14 : ab_MLate G h2 b 0 lr := ⟨fml, (e _ (by omega) (by omega) (by omega) (by omega) (by omega) (by omega) (by omega) (by omega)).trans gml, fun i hi => absurd hi (Nat.not_lt_zero i)⟩
  have H15 : ab_wv G h2 b 0 wr := ⟨Nat.zero_le _, (m1 _ (by omega) (by omega)).trans q7, ⟨fw, (e _ (by omega) (by omega) (by omega) (by omega) (by omega) (by omega) (by omega) (by omega)).trans gw3, fun i hi => absurd hi (Nat.not_lt_zero i)⟩, ⟨fw2, (e _ (by omega) (by omega) (by omega) (by omega) (by omega) (by omega) (by omega) (by omega)).trans gw5⟩⟩
  have H16 : ab_MWv G h2 b 0 wr := ⟨fmw, (e _ (by omega) (by omega) (by omega) (by omega) (by omega) (by omega) (by omega) (by omega)).trans gmw, fun i hi => absurd hi (Nat.not_lt_zero i)⟩
  have H17 : ab_Dk G h2 b d1 lX 0 rd ru la fo fl := ⟨(m1 _ (by omega) (by omega)).trans q4, by omega, ⟨i1, i2, i3, i4, i5, i6, i7, i8, i9, gla, gfo, gfl⟩⟩
  have H18 : ab_Chk G h2 b := gCk.kept (fun a q1 q2 => e a (by omega) (by omega) (by omega) (by omega) (by omega) (by omega) (by omega) (by omega))
  have H19 : ab_MScr G h2 b := gSc.kept (fun a q1 q2 => e a (by omega) (by omega) (by omega) (by omega) (by omega) (by omega) (by omega) (by omega))
  exact ⟨k, nc, np, pl, sz, t, u, pa, ma, 0, tp, d1, rr, rd, ru, 0, lr, la, fo, fl, 0, wr, lX, -1, 0, mf, F, ⟨gok, H1, gAd, H2⟩, ⟨H3, H4⟩, ⟨H5, H6, H7, H8, H9⟩, ⟨H10, H11, H12, H13, H14⟩, ⟨H15, H16⟩, ⟨H17, fun q => absurd rfl q, gmf, (if_pos rfl).symm⟩, ⟨u4, gfs⟩, ⟨H18, H19, ⟨f0, (e _ (by omega) (by omega) (by omega) (by omega) (by omega) (by omega) (by omega) (by omega)).trans ho⟩⟩⟩

set_option maxHeartbeats 4000000 in
set_option maxRecDepth 100000 in
theorem ab_Inv_rdF (G : sv_G) (b : Nat) (h h1 h2 : sv_h) (z : Nat) (k : Int32) (nc np pl : Nat) (sz : Nat → Nat) (t : Nat → Nat → Int32) (u : Nat → Nat → Nat → Int32) (pa ma : Nat → Nat) (tn : Nat) (tp : Nat → Int32) (nr : Nat) (r : Nat → Nat → Int32) (ru rd nl : Nat) (lr : Nat → Int64) (la fo fl nw : Nat) (wr : Nat → Int64) (lX lq lf mf : Int32) (F : List Value) (gk ga gb : Nat → Int32) (gl gr gv ge : Nat → Int64) (ak aa ab : Nat → Int32) (al ar av ae nm1 : Nat → Int64) (gok : ab_ok nc np pl sz t u) (gLay : ab_Lay G h b k nc np pl sz t u pa ma) (gAd : ab_ad b np pl z pa ma) (gML : ab_MLay G h b nc np pl sz t u) (gRu : ab_rows G h ru (ru + 1)) (gRd : ab_rows G h rd (rd + 1)) (gRl : ab_Rule G h (ru + 1) nr r) (gLa : ab_late G h la nl lr) (gFo : ab_any G h fo) (gFl : ab_any G h fl) (gLo : ab_any G h (b + 216)) (gMLa : ab_MLate G h b nl lr) (gWv : ab_wv G h b nw wr) (gMWv : ab_MWv G h b nw wr) (gDk : ab_Dk G h b nr lX lf ru rd la fo fl) (glq : nl ≠ 0 → lX = lq) (gmf : (mf = 0 ∨ mf = 1) ∧ ∀ i, i < nr → ab_cd r i) (glf : lf = (if lq = -1 then 0 else mf)) (gCk : ab_Chk G h b) (gSc : ab_MScr G h b) {f0 : Nat → Int64} (ho : h (b + 261) = some (.inl (G.2.2.1 1, 1, .inr (.inl f0)))) (FR : ∀ w, w ≠ b + 8 → w ≠ b + 10 → ¬ (rd + 1 ≤ w ∧ w < rd + 21) → h1 w = h w) (Ra : ∀ i, i < 20 → ∃ (n0 : Int64) (kd : Nat) (x1 x2 x3 x4 x5 x6 : Int32), kd < 11 ∧ h1 (rd + 1 + i) = some (.inr (5, [.long n0, .ref (G.2.2.2.2.1 kd), .int x1, .int x2, .int x3, .int x4, .int x5, .int x6]))) (T8 : h1 (b + 8) = some (.inr (7, [.ref (b + 9), .int 0]))) (q4 : ab_Rdr G h1 b rd k) (m1 : ∀ w, w ≠ b + 220 → ¬ (b + 233 ≤ w ∧ w ≤ b + 240) → h2 w = h1 w) (u4 : h2 (b + 220) = some (.inr (11, F))) (u5 : ma_ G h2 b ak aa ab al ar av ae nm1) (u6 : ∀ i, i < 20 → ak i = gk i ∧ aa i = ga i ∧ ab i = gb i ∧ al i = gl i ∧ ar i = gr i ∧ av i = gv i ∧ ae i = ge i) (r0 : ∀ i, i < nr → gk i = r 0 i) (r1 : ∀ i, i < nr → ga i = r 1 i) (r2 : ∀ i, i < nr → gb i = r 2 i) (r3 : ∀ i, i < nr → gl i = (r 3 i).toInt64) (r4 : ∀ i, i < nr → gr i = (if r 4 i < 1 then 1 else r 4 i).toInt64) (r5 : ∀ i, i < nr → gv i = (r 5 i).toInt64) (r6 : ∀ i, i < nr → ge i = (r 6 i).toInt64) (gMR : ab_MRule G h b nr r) (gMTp : ab_MTape G h b tn tp) (gTp : ab_Tape G h b tn tp) (gfs : ab_fs b k nc np pl 0 nr nl lq mf nw F) : ab_Inv G b h2 z := by
  obtain ⟨gru, i1, i2, i3, i4, i5, i6, i7, i8, i9, gla, gfo, gfl⟩ := gDk.2
  have gz := gAd.1
  obtain ⟨c1, c2, c3, c4, c5, c6, c7, c8⟩ := id u5
  have hnr := gRl.1
  have e : ∀ a, a ≠ b + 8 → a ≠ b + 10 → ¬ (rd + 1 ≤ a ∧ a < rd + 21) → a ≠ b + 220 → ¬ (b + 233 ≤ a ∧ a ≤ b + 240) → h2 a = h a := fun a a1 a2 a3 a7 a8 => (m1 a a7 a8).trans (FR a a1 a2 a3)
  obtain ⟨fq, fq1, fq2⟩ := gRd
  obtain ⟨t1, t2, ⟨f, t3, t4⟩, t5⟩ := gTp
  obtain ⟨f', s1, s2⟩ := gMTp
  have H1 : ab_Lay G h2 b k nc np pl sz t u pa ma := gLay.kept gAd (fun a q1 q2 => e a (by omega) (by omega) (by omega) (by omega) (by omega)) (fun a q1 q2 => e a (by omega) (by omega) (by omega) (by omega) (by omega))
  have H2 : ab_MLay G h2 b nc np pl sz t u := gML.kept (fun a q1 q2 => e a (by omega) (by omega) (by omega) (by omega) (by omega))
  have H3 : ab_Tape G h2 b 0 tp := ⟨Nat.zero_le _, (m1 _ (by omega) (by omega)).trans T8, ⟨f, (e _ (by omega) (by omega) (by omega) (by omega) (by omega)).trans t3, fun i hi => absurd hi (Nat.not_lt_zero i)⟩, fun i hi => absurd hi (Nat.not_lt_zero i)⟩
  have H4 : ab_MTape G h2 b 0 tp := ⟨f', (e _ (by omega) (by omega) (by omega) (by omega) (by omega)).trans s1, fun i hi => absurd hi (Nat.not_lt_zero i)⟩
  have H5 : ab_rows G h2 rd (rd + 1) := ⟨fq, (e _ (by omega) (by omega) (by omega) (by omega) (by omega)).trans fq1, fun j hj => ⟨(fq2 j hj).1, by
    obtain ⟨n0, kd, x1, x2, x3, x4, x5, x6, s1, s2⟩ := Ra j hj
    exact ⟨n0, kd, x1, x2, x3, x4, x5, x6, s1, (m1 _ (by omega) (by omega)).trans s2⟩⟩⟩
  have H6 : ab_rows G h2 ru (ru + 1) := gRu.kept (by omega) (fun a q1 q2 => e a (by omega) (by omega) (by omega) (by omega) (by omega))
  have H7 : ab_Rule G h2 (ru + 1) nr r := gRl.kept (fun a q1 q2 => e a (by omega) (by omega) (by omega) (by omega) (by omega))
  have H8 : ab_Rdr G h2 b rd k := q4.kept (fun a q1 q2 => m1 a (by omega) (by omega))
  have H9 : ab_MRule G h2 b nr r := ⟨⟨_, c1, fun i hi => ((u6 i (by omega)).1).trans (r0 i hi)⟩, ⟨_, c2, fun i hi => ((u6 i (by omega)).2.1).trans (r1 i hi)⟩, ⟨_, c3, fun i hi => ((u6 i (by omega)).2.2.1).trans (r2 i hi)⟩, ⟨_, c4, fun i hi => ((u6 i (by omega)).2.2.2.1).trans (r3 i hi)⟩, ⟨_, c5, fun i hi => ((u6 i (by omega)).2.2.2.2.1).trans (r4 i hi)⟩, ⟨_, c6, fun i hi => ((u6 i (by omega)).2.2.2.2.2.1).trans (r5 i hi)⟩, ⟨_, c7, fun i hi => ((u6 i (by omega)).2.2.2.2.2.2).trans (r6 i hi)⟩, ⟨_, c8⟩⟩
  have H10 : ab_late G h2 la nl lr := gLa.kept (fun a q1 q2 => e a (by omega) (by omega) (by omega) (by omega) (by omega))
  have H11 : ab_any G h2 fo := gFo.kept (fun a q1 q2 => e a (by omega) (by omega) (by omega) (by omega) (by omega))
  have H12 : ab_any G h2 fl := gFl.kept (fun a q1 q2 => e a (by omega) (by omega) (by omega) (by omega) (by omega))
  have H13 : ab_any G h2 (b + 216) := gLo.kept (fun a q1 q2 => e a (by omega) (by omega) (by omega) (by omega) (by omega))
  have H14 : ab_MLate G h2 b nl lr := gMLa.kept (fun a q1 q2 => e a (by omega) (by omega) (by omega) (by omega) (by omega))
  have H15 : ab_wv G h2 b nw wr := gWv.kept (fun a q1 q2 => e a (by omega) (by omega) (by omega) (by omega) (by omega))
  have H16 : ab_MWv G h2 b nw wr := gMWv.kept (fun a q1 q2 => e a (by omega) (by omega) (by omega) (by omega) (by omega))
  have H17 : ab_Dk G h2 b nr lX lf ru rd la fo fl := gDk.kept (fun a q1 q2 => e a (by omega) (by omega) (by omega) (by omega) (by omega))
  have H18 : ab_Chk G h2 b := gCk.kept (fun a q1 q2 => e a (by omega) (by omega) (by omega) (by omega) (by omega))
  have H19 : ab_MScr G h2 b := gSc.kept (fun a q1 q2 => e a (by omega) (by omega) (by omega) (by omega) (by omega))
  exact ⟨k, nc, np, pl, sz, t, u, pa, ma, 0, tp, nr, r, ru, rd, nl, lr, la, fo, fl, nw, wr, lX, lq, lf, mf, F, ⟨gok, H1, gAd, H2⟩, ⟨H3, H4⟩, ⟨H6, H5, H7, H8, H9⟩, ⟨H10, H11, H12, H13, H14⟩, ⟨H15, H16⟩, ⟨H17, glq, gmf, glf⟩, ⟨u4, gfs⟩, ⟨H18, H19, ⟨f0, (e _ (by omega) (by omega) (by omega) (by omega) (by omega)).trans ho⟩⟩⟩

