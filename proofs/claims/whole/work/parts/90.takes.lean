theorem iwX6_takeSign_X6 : ∀ w ∈ wsX60, w ∈ wsX6_takeSign := by decide +kernel
theorem iwX6_takeNumber_X6 : ∀ w ∈ wsX60, w ∈ wsX6_takeNumber := by decide +kernel
set_option maxRecDepth 20000 in
theorem ggX6_takeSign_X6_step : GoodIn wsX6_takeSign wsX6_step := goodIn_r _ [7, 8, 9, 10, 11, 12, 13, 2, 1, 14, 15, 6, 16, 17, 18, 19, 20, 21, 22, 23, 24, 25, 26, 27, 28, 29, 30, 31] (by decide +kernel) (by decide +kernel)
set_option maxRecDepth 20000 in
theorem gX6_takeSign_X6_step : GoodIn wsX6_takeSign (wsV RX6 35 RX6 yX6_step wsX6_step) := goodIn_app (goodIn_of _ (by decide +kernel)) ggX6_takeSign_X6_step
theorem dX6_takeSign_0 : decode cX6_takeSign 0 = .ok (.aload_n 0, 1) := by decide +kernel
theorem dX6_takeSign_1 : decode cX6_takeSign 1 = .ok (.getfield 61, 3) := by decide +kernel
theorem dX6_takeSign_4 : decode cX6_takeSign 4 = .ok (.iconst 4, 1) := by decide +kernel
theorem dX6_takeSign_5 : decode cX6_takeSign 5 = .ok (.if_icmp .ne 13, 3) := by decide +kernel
theorem dX6_takeSign_8 : decode cX6_takeSign 8 = .ok (.aload_n 0, 1) := by decide +kernel
theorem dX6_takeSign_9 : decode cX6_takeSign 9 = .ok (.getfield 68, 3) := by decide +kernel
theorem dX6_takeSign_12 : decode cX6_takeSign 12 = .ok (.iload_n 1, 1) := by decide +kernel
theorem dX6_takeSign_13 : decode cX6_takeSign 13 = .ok (.i2l, 1) := by decide +kernel
theorem dX6_takeSign_14 : decode cX6_takeSign 14 = .ok (.lcmp, 1) := by decide +kernel
theorem dX6_takeSign_15 : decode cX6_takeSign 15 = .ok (.ifCond .eq 5, 3) := by decide +kernel
theorem dX6_takeSign_18 : decode cX6_takeSign 18 = .ok (.iconst 0, 1) := by decide +kernel
theorem dX6_takeSign_19 : decode cX6_takeSign 19 = .ok (.ireturn, 1) := by decide +kernel
theorem dX6_takeSign_20 : decode cX6_takeSign 20 = .ok (.aload_n 0, 1) := by decide +kernel
theorem dX6_takeSign_21 : decode cX6_takeSign 21 = .ok (.invokevirtual 35, 3) := by decide +kernel
theorem dX6_takeSign_24 : decode cX6_takeSign 24 = .ok (.iconst 1, 1) := by decide +kernel
theorem dX6_takeSign_25 : decode cX6_takeSign 25 = .ok (.ireturn, 1) := by decide +kernel
set_option maxRecDepth 20000 in
theorem ggX6_takeNumber_X6_step : GoodIn wsX6_takeNumber wsX6_step := goodIn_r _ [7, 8, 9, 10, 11, 12, 13, 2, 1, 14, 15, 6, 16, 17, 18, 19, 20, 21, 22, 23, 24, 25, 26, 27, 28, 29, 30, 31] (by decide +kernel) (by decide +kernel)
set_option maxRecDepth 20000 in
theorem gX6_takeNumber_X6_step : GoodIn wsX6_takeNumber (wsV RX6 35 RX6 yX6_step wsX6_step) := goodIn_app (goodIn_of _ (by decide +kernel)) ggX6_takeNumber_X6_step
theorem dX6_takeNumber_0 : decode cX6_takeNumber 0 = .ok (.aload_n 0, 1) := by decide +kernel
theorem dX6_takeNumber_1 : decode cX6_takeNumber 1 = .ok (.getfield 61, 3) := by decide +kernel
theorem dX6_takeNumber_4 : decode cX6_takeNumber 4 = .ok (.iconst 3, 1) := by decide +kernel
theorem dX6_takeNumber_5 : decode cX6_takeNumber 5 = .ok (.if_icmp .ne 13, 3) := by decide +kernel
theorem dX6_takeNumber_8 : decode cX6_takeNumber 8 = .ok (.aload_n 0, 1) := by decide +kernel
theorem dX6_takeNumber_9 : decode cX6_takeNumber 9 = .ok (.getfield 68, 3) := by decide +kernel
theorem dX6_takeNumber_12 : decode cX6_takeNumber 12 = .ok (.iload_n 1, 1) := by decide +kernel
theorem dX6_takeNumber_13 : decode cX6_takeNumber 13 = .ok (.i2l, 1) := by decide +kernel
theorem dX6_takeNumber_14 : decode cX6_takeNumber 14 = .ok (.lcmp, 1) := by decide +kernel
theorem dX6_takeNumber_15 : decode cX6_takeNumber 15 = .ok (.ifCond .lt 5, 3) := by decide +kernel
theorem dX6_takeNumber_18 : decode cX6_takeNumber 18 = .ok (.iconst (-1), 1) := by decide +kernel
theorem dX6_takeNumber_19 : decode cX6_takeNumber 19 = .ok (.ireturn, 1) := by decide +kernel
theorem dX6_takeNumber_20 : decode cX6_takeNumber 20 = .ok (.aload_n 0, 1) := by decide +kernel
theorem dX6_takeNumber_21 : decode cX6_takeNumber 21 = .ok (.getfield 68, 3) := by decide +kernel
theorem dX6_takeNumber_24 : decode cX6_takeNumber 24 = .ok (.l2i, 1) := by decide +kernel
theorem dX6_takeNumber_25 : decode cX6_takeNumber 25 = .ok (.istore_n 2, 1) := by decide +kernel
theorem dX6_takeNumber_26 : decode cX6_takeNumber 26 = .ok (.aload_n 0, 1) := by decide +kernel
theorem dX6_takeNumber_27 : decode cX6_takeNumber 27 = .ok (.invokevirtual 35, 3) := by decide +kernel
theorem dX6_takeNumber_30 : decode cX6_takeNumber 30 = .ok (.iload_n 2, 1) := by decide +kernel
theorem dX6_takeNumber_31 : decode cX6_takeNumber 31 = .ok (.ireturn, 1) := by decide +kernel

abbrev mX6_takeSign : sv_M := (cX6_takeSign, 2, yX6_takeSign, wsX6_takeSign, (some .boolean), { frames := 30, cells := 0, slots := 0, locals := 1500 }, [])
abbrev mX6_takeNumber : sv_M := (cX6_takeNumber, 3, yX6_takeNumber, wsX6_takeNumber, (some .int), { frames := 30, cells := 0, slots := 0, locals := 1500 }, [])
set_option maxHeartbeats 4000000 in
set_option maxRecDepth 100000 in
theorem c_takeSign (G : sv_G) (h : sv_h) (z b n : Nat) (k df wd : Int32) (A : Nat) (f tp : Nat → Int32) (ht1 : h (b + 8) = some (.inr (7, [.ref (b + 9), .int (nI n)]))) (ht2 : ab_I G h (b + 9) 600 f) (htp : ∀ i, i < n → f i = tp i) (hn : n ≤ 600) (a e : Nat) (hen : e ≤ n) (hrd : h (b + 10) = some (.inr (4, [.ref (b + 8), .int k, .ref A, .int df, .int wd, .int (lx_ss n tp a e), .int (nI a), .int (nI e), .long (lx_vv n tp a e)]))) (c : Int32) : CT G mX6_takeSign [.ref (b + 10), .int c] h z (fun v h1 z1 => z1 = z ∧ ∃ w0 : Int32, v = some (.int w0) ∧ ((w0 = 1 ∧ (lx_ss n tp a e = 4 ∧ lx_vv n tp a e = c.toInt64) ∧ (∃ a1 e1, lx_T n tp e a1 e1 ∧ h1 (b + 10) = some (.inr (4, [.ref (b + 8), .int k, .ref A, .int df, .int (wd + 1), .int (lx_ss n tp a1 e1), .int (nI a1), .int (nI e1), .long (lx_vv n tp a1 e1)]))) ∧ ∀ w, w ≠ b + 10 → h1 w = h w) ∨ (w0 = 0 ∧ ¬ (lx_ss n tp a e = 4 ∧ lx_vv n tp a e = c.toInt64) ∧ h1 = h))) := by
  refine CT.of (by decide +kernel) rfl rfl (Nat.le_of_ble_eq_true rfl) ?_
  refine v_aload_n dX6_takeSign_0 rfl 0 rfl ?_
  refine v_getf 5 (ci := 4) (C := RX6) (T := TX6) (N := 9) rfl iwX6_takeSign_X6 (Nat.le_of_ble_eq_true rfl) (by decide +kernel) dX6_takeSign_1 (by repeat (first | (with_reducible refine sv_us.trans ?_; exact rfl) | with_reducible assumption | with_reducible refine (sv_un (by omega)).trans ?_)) (by exact rfl) ?_
  refine v_iconst (v := 4) dX6_takeSign_4 (by decide) ?_
  refine v_icmp_ne (tgt := 18) dX6_takeSign_5 (by decide) (fun c_5 => ?_) (fun c_5 => ?_)
  · refine v_iconst (v := 0) dX6_takeSign_18 (by decide) ?_
    exact v_iret rfl dX6_takeSign_19 (Nat.le_of_ble_eq_true rfl) (Nat.le_of_ble_eq_true rfl) rfl ⟨rfl, 0, rfl, Or.inr ⟨rfl, by first | exact fun q => c_5 q.1 | exact fun q => c_15 q.2, rfl⟩⟩
  · refine v_aload_n dX6_takeSign_8 rfl 0 rfl ?_
    refine v_getf 8 (ci := 4) (C := RX6) (T := TX6) (N := 9) rfl iwX6_takeSign_X6 (Nat.le_of_ble_eq_true rfl) (by decide +kernel) dX6_takeSign_9 (by repeat (first | (with_reducible refine sv_us.trans ?_; exact rfl) | with_reducible assumption | with_reducible refine (sv_un (by omega)).trans ?_)) (by exact rfl) ?_
    refine v_iload_n dX6_takeSign_12 rfl 1 rfl ?_
    refine v_i2l dX6_takeSign_13 rfl ?_
    refine v_lcmp_eq (tgt := 20) dX6_takeSign_14 dX6_takeSign_15 (by decide) (fun c_15 => ?_) (fun c_15 => ?_)
    · refine v_aload_n dX6_takeSign_20 rfl 0 rfl ?_
      refine v_callVq (M' := mX6_step) (n := 0) (As := []) (ci := 4) (r := (RX6, TX6, 9)) gX6_takeSign_X6_step rfl (by decide +kernel) ⟨(Nat.le_of_ble_eq_true rfl), (Nat.le_of_ble_eq_true rfl)⟩ rfl rfl dX6_takeSign_21 rfl ⟨(Nat.le_of_ble_eq_true rfl), (Nat.le_of_ble_eq_true rfl)⟩ (Nat.le_of_ble_eq_true rfl) (by repeat (first | (with_reducible refine sv_us.trans ?_; exact rfl) | with_reducible assumption | with_reducible refine (sv_un (by omega)).trans ?_)) rfl (c_step G _ _ b n k df wd A f tp ht1 ht2 htp hn e hen _ _ _ hrd) (fun v h1 z1 hq => ?_)
      obtain ⟨rfl, rfl, ⟨a1, e1, k1, k2⟩, k3⟩ := hq
      refine v_iconst (v := 1) dX6_takeSign_24 (by decide) ?_
      exact v_iret rfl dX6_takeSign_25 (Nat.le_of_ble_eq_true rfl) (Nat.le_of_ble_eq_true rfl) rfl ⟨rfl, 1, rfl, Or.inl ⟨rfl, ⟨c_5, c_15⟩, ⟨a1, e1, k1, k2⟩, k3⟩⟩
    · refine v_iconst (v := 0) dX6_takeSign_18 (by decide) ?_
      exact v_iret rfl dX6_takeSign_19 (Nat.le_of_ble_eq_true rfl) (Nat.le_of_ble_eq_true rfl) rfl ⟨rfl, 0, rfl, Or.inr ⟨rfl, by first | exact fun q => c_5 q.1 | exact fun q => c_15 q.2, rfl⟩⟩

set_option maxHeartbeats 4000000 in
set_option maxRecDepth 100000 in
theorem c_takeNumber (G : sv_G) (h : sv_h) (z b n : Nat) (k df wd : Int32) (A : Nat) (f tp : Nat → Int32) (ht1 : h (b + 8) = some (.inr (7, [.ref (b + 9), .int (nI n)]))) (ht2 : ab_I G h (b + 9) 600 f) (htp : ∀ i, i < n → f i = tp i) (hn : n ≤ 600) (a e : Nat) (hen : e ≤ n) (hrd : h (b + 10) = some (.inr (4, [.ref (b + 8), .int k, .ref A, .int df, .int wd, .int (lx_ss n tp a e), .int (nI a), .int (nI e), .long (lx_vv n tp a e)]))) (c : Int32) : CT G mX6_takeNumber [.ref (b + 10), .int c] h z (fun v h1 z1 => z1 = z ∧ (((lx_ss n tp a e = 3 ∧ lx_vv n tp a e < c.toInt64) ∧ v = some (.int (lx_vv n tp a e).toInt32) ∧ (∃ a1 e1, lx_T n tp e a1 e1 ∧ h1 (b + 10) = some (.inr (4, [.ref (b + 8), .int k, .ref A, .int df, .int (wd + 1), .int (lx_ss n tp a1 e1), .int (nI a1), .int (nI e1), .long (lx_vv n tp a1 e1)]))) ∧ ∀ w, w ≠ b + 10 → h1 w = h w) ∨ (¬ (lx_ss n tp a e = 3 ∧ lx_vv n tp a e < c.toInt64) ∧ v = some (.int (-1)) ∧ h1 = h))) := by
  refine CT.of (by decide +kernel) rfl rfl (Nat.le_of_ble_eq_true rfl) ?_
  refine v_aload_n dX6_takeNumber_0 rfl 0 rfl ?_
  refine v_getf 5 (ci := 4) (C := RX6) (T := TX6) (N := 9) rfl iwX6_takeNumber_X6 (Nat.le_of_ble_eq_true rfl) (by decide +kernel) dX6_takeNumber_1 (by repeat (first | (with_reducible refine sv_us.trans ?_; exact rfl) | with_reducible assumption | with_reducible refine (sv_un (by omega)).trans ?_)) (by exact rfl) ?_
  refine v_iconst (v := 3) dX6_takeNumber_4 (by decide) ?_
  refine v_icmp_ne (tgt := 18) dX6_takeNumber_5 (by decide) (fun c_5 => ?_) (fun c_5 => ?_)
  · refine v_iconst (v := (-1)) dX6_takeNumber_18 (by decide) ?_
    exact v_iret rfl dX6_takeNumber_19 (Nat.le_of_ble_eq_true rfl) (Nat.le_of_ble_eq_true rfl) rfl ⟨rfl, Or.inr ⟨by first | exact fun q => c_5 q.1 | exact fun q => c_15 q.2, rfl, rfl⟩⟩
  · refine v_aload_n dX6_takeNumber_8 rfl 0 rfl ?_
    refine v_getf 8 (ci := 4) (C := RX6) (T := TX6) (N := 9) rfl iwX6_takeNumber_X6 (Nat.le_of_ble_eq_true rfl) (by decide +kernel) dX6_takeNumber_9 (by repeat (first | (with_reducible refine sv_us.trans ?_; exact rfl) | with_reducible assumption | with_reducible refine (sv_un (by omega)).trans ?_)) (by exact rfl) ?_
    refine v_iload_n dX6_takeNumber_12 rfl 1 rfl ?_
    refine v_i2l dX6_takeNumber_13 rfl ?_
    refine v_lcmp_lt (tgt := 20) dX6_takeNumber_14 dX6_takeNumber_15 (by decide) (fun c_15 => ?_) (fun c_15 => ?_)
    · refine v_aload_n dX6_takeNumber_20 rfl 0 rfl ?_
      refine v_getf 8 (ci := 4) (C := RX6) (T := TX6) (N := 9) rfl iwX6_takeNumber_X6 (Nat.le_of_ble_eq_true rfl) (by decide +kernel) dX6_takeNumber_21 (by repeat (first | (with_reducible refine sv_us.trans ?_; exact rfl) | with_reducible assumption | with_reducible refine (sv_un (by omega)).trans ?_)) (by exact rfl) ?_
      refine v_l2i dX6_takeNumber_24 rfl ?_
      refine v_istore_n (L' := [(2, _), (0, _), (1, _)]) dX6_takeNumber_25 rfl (Nat.le_of_ble_eq_true rfl) rfl ?_
      refine v_aload_n dX6_takeNumber_26 rfl 1 rfl ?_
      refine v_callVq (M' := mX6_step) (n := 0) (As := []) (ci := 4) (r := (RX6, TX6, 9)) gX6_takeNumber_X6_step rfl (by decide +kernel) ⟨(Nat.le_of_ble_eq_true rfl), (Nat.le_of_ble_eq_true rfl)⟩ rfl rfl dX6_takeNumber_27 rfl ⟨(Nat.le_of_ble_eq_true rfl), (Nat.le_of_ble_eq_true rfl)⟩ (Nat.le_of_ble_eq_true rfl) (by repeat (first | (with_reducible refine sv_us.trans ?_; exact rfl) | with_reducible assumption | with_reducible refine (sv_un (by omega)).trans ?_)) rfl (c_step G _ _ b n k df wd A f tp ht1 ht2 htp hn e hen _ _ _ hrd) (fun v h1 z1 hq => ?_)
      obtain ⟨rfl, rfl, ⟨a1, e1, k1, k2⟩, k3⟩ := hq
      refine v_iload_n dX6_takeNumber_30 rfl 0 rfl ?_
      exact v_iret rfl dX6_takeNumber_31 (Nat.le_of_ble_eq_true rfl) (Nat.le_of_ble_eq_true rfl) rfl ⟨rfl, Or.inl ⟨⟨c_5, c_15⟩, rfl, ⟨a1, e1, k1, k2⟩, k3⟩⟩
    · refine v_iconst (v := (-1)) dX6_takeNumber_18 (by decide) ?_
      exact v_iret rfl dX6_takeNumber_19 (Nat.le_of_ble_eq_true rfl) (Nat.le_of_ble_eq_true rfl) rfl ⟨rfl, Or.inr ⟨by first | exact fun q => c_5 q.1 | exact fun q => c_15 q.2, rfl, rfl⟩⟩

/-- a sign, to both sides -/
theorem lx_sign {n : Nat} {tp : Nat → Int32} {p a e : Nat} (T : lx_T n tp p a e) {c : Int32} (hc : lx_so c = 4) : (lx_ss n tp a e = 4 ∧ lx_vv n tp a e = c.toInt64) ↔ (e = a + 1 ∧ tp a = c) := by
  constructor
  · intro h
    by_cases q : a < n
    · by_cases q2 : lx_so (tp a) = 2
      · rw [(lx_s2 q q2).1, q2] at h
        have q9 := h.1
        exfalso
        revert q9
        split <;> decide
      · by_cases q3 : lx_so (tp a) = 3
        · rw [(lx_s3 q q3).1, q3] at h
          have q9 := h.1
          exfalso
          revert q9
          split <;> decide
        · rw [(lx_s4 q q2 q3).2] at h
          refine ⟨?_, sv_32i.mp h.2⟩
          rcases T.2 with ⟨r1, _⟩ | ⟨_, r2, _⟩ | ⟨_, _, r3⟩
          · omega
          · exact absurd r2 (fun s => s.elim q2 q3)
          · exact r3
    · rw [(lx_s0 q).1] at h; exact absurd h.1 (by decide)
  · intro h
    have q : a < n := by
      rcases T.2 with ⟨r1, r2⟩ | ⟨r1, _⟩ | ⟨r1, _⟩
      · omega
      · exact r1
      · exact r1
    have q4 : lx_so (tp a) = 4 := by rw [h.2]; exact hc
    have q2 : ¬ lx_so (tp a) = 2 := by rw [q4]; decide
    have q3 : ¬ lx_so (tp a) = 3 := by rw [q4]; decide
    rw [(lx_s4 q q2 q3).1, (lx_s4 q q2 q3).2, h.2]
    exact ⟨hc, rfl⟩
/-- a number, to both sides -/
theorem lx_num {n : Nat} {tp : Nat → Int32} {p a e : Nat} (T : lx_T n tp p a e) : lx_ss n tp a e = 3 ↔ (a < e ∧ lx_so (tp a) = 3 ∧ e - a ≤ 9) := by
  constructor
  · intro h
    by_cases q : a < n
    · by_cases q2 : lx_so (tp a) = 2
      · rw [(lx_s2 q q2).1, q2] at h
        exfalso
        revert h
        split <;> decide
      · by_cases q3 : lx_so (tp a) = 3
        · rw [(lx_s3 q q3).1, q3] at h
          refine ⟨?_, q3, ?_⟩
          · rcases T.2 with ⟨r1, _⟩ | ⟨_, _, r2⟩ | ⟨_, r2, _⟩
            · omega
            · rcases Nat.lt_or_ge a e with w | w
              · exact w
              · have := r2.1
                have e1 : e = a := by omega
                rw [e1] at r2
                exact absurd rfl (r2.2.2.2 q)
            · exact absurd (Or.inr q3) r2
          · by_cases w : 9 < e - a
            · rw [if_pos w] at h; exact absurd h (by decide)
            · omega
        · rw [(lx_s4 q q2 q3).1] at h; exact absurd h q3
    · rw [(lx_s0 q).1] at h; exact absurd h (by decide)
  · intro h
    have q : a < n := by
      rcases T.2 with ⟨r1, r2⟩ | ⟨r1, _⟩ | ⟨r1, _⟩
      · omega
      · exact r1
      · exact r1
    rw [(lx_s3 q h.2.1).1, if_neg (by omega)]
    exact h.2.1
theorem lx_numv {n : Nat} {tp : Nat → Int32} {p a e : Nat} (T : lx_T n tp p a e) (h : lx_ss n tp a e = 3) : lx_vv n tp a e = lx_va tp 48 10 a (e - a) := by
  have g := (lx_num T).mp h
  have q : a < n := by
    rcases T.2 with ⟨r1, r2⟩ | ⟨r1, _⟩ | ⟨r1, _⟩
    · have := g.1; omega
    · exact r1
    · exact r1
  exact (lx_s3 q g.2.1).2
/-- a name, to both sides -/
theorem lx_nam {n : Nat} {tp : Nat → Int32} {p a e : Nat} (T : lx_T n tp p a e) : lx_ss n tp a e = 2 ↔ (a < e ∧ lx_so (tp a) = 2 ∧ e - a ≤ 8) := by
  constructor
  · intro h
    by_cases q : a < n
    · by_cases q2 : lx_so (tp a) = 2
      · rw [(lx_s2 q q2).1, q2] at h
        refine ⟨?_, q2, ?_⟩
        · rcases T.2 with ⟨r1, _⟩ | ⟨_, _, r2⟩ | ⟨_, r2, _⟩
          · omega
          · rcases Nat.lt_or_ge a e with w | w
            · exact w
            · have := r2.1
              have e1 : e = a := by omega
              rw [e1] at r2
              exact absurd rfl (r2.2.2.2 q)
          · exact absurd (Or.inl q2) r2
        · by_cases w : 8 < e - a
          · rw [if_pos w] at h; exact absurd h (by decide)
          · omega
      · by_cases q3 : lx_so (tp a) = 3
        · rw [(lx_s3 q q3).1, q3] at h
          exfalso
          revert h
          split <;> decide
        · rw [(lx_s4 q q2 q3).1] at h; exact absurd h q2
    · rw [(lx_s0 q).1] at h; exact absurd h (by decide)
  · intro h
    have q : a < n := by
      rcases T.2 with ⟨r1, r2⟩ | ⟨r1, _⟩ | ⟨r1, _⟩
      · omega
      · exact r1
      · exact r1
    rw [(lx_s2 q h.2.1).1, if_neg (by omega)]
    exact h.2.1
theorem lx_namv {n : Nat} {tp : Nat → Int32} {p a e : Nat} (T : lx_T n tp p a e) (h : lx_ss n tp a e = 2) : lx_vv n tp a e = lx_va tp 96 27 a (e - a) := by
  have g := (lx_nam T).mp h
  have q : a < n := by
    rcases T.2 with ⟨r1, r2⟩ | ⟨r1, _⟩ | ⟨r1, _⟩
    · have := g.1; omega
    · exact r1
    · exact r1
  exact (lx_s2 q g.2.1).2
