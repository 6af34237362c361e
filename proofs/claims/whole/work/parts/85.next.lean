theorem dX13_isLetter_0 : decode cX13_isLetter 0 = .ok (.iload_n 0, 1) := by decide +kernel
theorem dX13_isLetter_1 : decode cX13_isLetter 1 = .ok (.bipush 97, 2) := by decide +kernel
theorem dX13_isLetter_3 : decode cX13_isLetter 3 = .ok (.if_icmp .lt 13, 3) := by decide +kernel
theorem dX13_isLetter_6 : decode cX13_isLetter 6 = .ok (.iload_n 0, 1) := by decide +kernel
theorem dX13_isLetter_7 : decode cX13_isLetter 7 = .ok (.bipush 122, 2) := by decide +kernel
theorem dX13_isLetter_9 : decode cX13_isLetter 9 = .ok (.if_icmp .gt 7, 3) := by decide +kernel
theorem dX13_isLetter_12 : decode cX13_isLetter 12 = .ok (.iconst 1, 1) := by decide +kernel
theorem dX13_isLetter_13 : decode cX13_isLetter 13 = .ok (.goto 4, 3) := by decide +kernel
theorem dX13_isLetter_16 : decode cX13_isLetter 16 = .ok (.iconst 0, 1) := by decide +kernel
theorem dX13_isLetter_17 : decode cX13_isLetter 17 = .ok (.ireturn, 1) := by decide +kernel
theorem dX13_isDigit_0 : decode cX13_isDigit 0 = .ok (.iload_n 0, 1) := by decide +kernel
theorem dX13_isDigit_1 : decode cX13_isDigit 1 = .ok (.bipush 48, 2) := by decide +kernel
theorem dX13_isDigit_3 : decode cX13_isDigit 3 = .ok (.if_icmp .lt 13, 3) := by decide +kernel
theorem dX13_isDigit_6 : decode cX13_isDigit 6 = .ok (.iload_n 0, 1) := by decide +kernel
theorem dX13_isDigit_7 : decode cX13_isDigit 7 = .ok (.bipush 57, 2) := by decide +kernel
theorem dX13_isDigit_9 : decode cX13_isDigit 9 = .ok (.if_icmp .gt 7, 3) := by decide +kernel
theorem dX13_isDigit_12 : decode cX13_isDigit 12 = .ok (.iconst 1, 1) := by decide +kernel
theorem dX13_isDigit_13 : decode cX13_isDigit 13 = .ok (.goto 4, 3) := by decide +kernel
theorem dX13_isDigit_16 : decode cX13_isDigit 16 = .ok (.iconst 0, 1) := by decide +kernel
theorem dX13_isDigit_17 : decode cX13_isDigit 17 = .ok (.ireturn, 1) := by decide +kernel

set_option maxRecDepth 20000 in
theorem ggX13_next_X13_isLetter : GoodIn wsX13_next wsX13_isLetter := goodIn_r _ [9] (by decide +kernel) (by decide +kernel)
set_option maxRecDepth 20000 in
theorem ggX13_next_X13_isDigit : GoodIn wsX13_next wsX13_isDigit := goodIn_r _ [12] (by decide +kernel) (by decide +kernel)
set_option maxRecDepth 20000 in
theorem ggX13_name_X13_isLetter : GoodIn wsX13_name wsX13_isLetter := goodIn_r _ [9] (by decide +kernel) (by decide +kernel)
set_option maxRecDepth 20000 in
theorem ggX13_number_X13_isDigit : GoodIn wsX13_number wsX13_isDigit := goodIn_r _ [9] (by decide +kernel) (by decide +kernel)
abbrev mX13_isLetter : sv_M := (cX13_isLetter, 1, yX13_isLetter, wsX13_isLetter, (some .boolean), { frames := 0, cells := 0, slots := 0, locals := 0 }, [])
abbrev mX13_isDigit : sv_M := (cX13_isDigit, 1, yX13_isDigit, wsX13_isDigit, (some .boolean), { frames := 0, cells := 0, slots := 0, locals := 0 }, [])
theorem lx_is2 {c : Int32} : lx_so c = 2 ↔ (97 ≤ c ∧ c ≤ 122) := by
  constructor
  · intro h
    by_cases q : 97 ≤ c ∧ c ≤ 122
    · exact q
    · rw [lx_so, if_neg q] at h
      exfalso
      revert h
      repeat (first | split | decide)
  · exact fun h => lx_2 h.1 h.2
theorem lx_is3 {c : Int32} : lx_so c = 3 ↔ (48 ≤ c ∧ c ≤ 57) := by
  constructor
  · intro h
    by_cases q : 97 ≤ c ∧ c ≤ 122
    · rw [lx_so, if_pos q] at h; exact absurd h (by decide)
    · by_cases r : 48 ≤ c ∧ c ≤ 57
      · exact r
      · rw [lx_so, if_neg q, if_neg r] at h
        exfalso
        revert h
        repeat (first | split | decide)
  · intro h
    refine lx_3 (fun q => ?_) h.1 h.2
    have a := q.1
    have b := h.2
    rw [Int32.le_iff_toInt_le] at a b
    rw [show (97 : Int32).toInt = 97 by decide] at a
    rw [show (57 : Int32).toInt = 57 by decide] at b
    omega
theorem lx_is1 {c : Int32} : lx_so c = 1 ↔ (c = 32 ∨ c = 10) := by
  constructor
  · intro h
    by_cases q : 97 ≤ c ∧ c ≤ 122
    · rw [lx_so, if_pos q] at h; exact absurd h (by decide)
    · by_cases r : 48 ≤ c ∧ c ≤ 57
      · rw [lx_so, if_neg q, if_pos r] at h; exact absurd h (by decide)
      · by_cases w : c = 32 ∨ c = 10
        · exact w
        · rw [lx_so, if_neg q, if_neg r, if_neg w] at h
          exfalso
          revert h
          repeat (first | split | decide)
  · rintro (rfl | rfl) <;> decide
set_option maxHeartbeats 4000000 in
set_option maxRecDepth 100000 in
theorem m_isLetter (G : sv_G) (h : sv_h) (z : Nat) (c : Int32) : CT G mX13_isLetter [.int c] h z (fun v h1 z1 => v = some (.int (if lx_so c = 2 then 1 else 0)) ∧ h1 = h ∧ z1 = z) := by
  refine CT.of (by decide +kernel) rfl rfl (Nat.le_of_ble_eq_true rfl) ?_
  refine v_iload_n dX13_isLetter_0 rfl 0 rfl ?_
  refine v_bipush (v := 97) dX13_isLetter_1 (by decide) ?_
  refine v_icmp_lt (tgt := 16) dX13_isLetter_3 (by decide) (fun c_3 => ?_) (fun c_3 => ?_)
  · refine v_iconst (v := 0) dX13_isLetter_16 (by decide) ?_
    exact v_iret rfl dX13_isLetter_17 (Nat.le_of_ble_eq_true rfl) (Nat.le_of_ble_eq_true rfl) rfl ⟨by first | exact congrArg (fun i => some (Value.int i)) (if_pos (lx_is2.mpr ⟨Int32.not_lt.mp c_3, Int32.not_lt.mp c_9⟩)).symm | exact congrArg (fun i => some (Value.int i)) (if_neg (fun q => sv_ng c_9 (lx_is2.mp q))).symm | exact congrArg (fun i => some (Value.int i)) (if_neg (fun q => sv_nl c_3 (lx_is2.mp q))).symm, rfl, rfl⟩
  · refine v_iload_n dX13_isLetter_6 rfl 0 rfl ?_
    refine v_bipush (v := 122) dX13_isLetter_7 (by decide) ?_
    refine v_icmp_gt (tgt := 16) dX13_isLetter_9 (by decide) (fun c_9 => ?_) (fun c_9 => ?_)
    · refine v_iconst (v := 0) dX13_isLetter_16 (by decide) ?_
      exact v_iret rfl dX13_isLetter_17 (Nat.le_of_ble_eq_true rfl) (Nat.le_of_ble_eq_true rfl) rfl ⟨by first | exact congrArg (fun i => some (Value.int i)) (if_pos (lx_is2.mpr ⟨Int32.not_lt.mp c_3, Int32.not_lt.mp c_9⟩)).symm | exact congrArg (fun i => some (Value.int i)) (if_neg (fun q => sv_ng c_9 (lx_is2.mp q))).symm | exact congrArg (fun i => some (Value.int i)) (if_neg (fun q => sv_nl c_3 (lx_is2.mp q))).symm, rfl, rfl⟩
    · refine v_iconst (v := 1) dX13_isLetter_12 (by decide) ?_
      refine v_goto (tgt := 17) dX13_isLetter_13 (by decide) ?_
      exact v_iret rfl dX13_isLetter_17 (Nat.le_of_ble_eq_true rfl) (Nat.le_of_ble_eq_true rfl) rfl ⟨by first | exact congrArg (fun i => some (Value.int i)) (if_pos (lx_is2.mpr ⟨Int32.not_lt.mp c_3, Int32.not_lt.mp c_9⟩)).symm | exact congrArg (fun i => some (Value.int i)) (if_neg (fun q => sv_ng c_9 (lx_is2.mp q))).symm | exact congrArg (fun i => some (Value.int i)) (if_neg (fun q => sv_nl c_3 (lx_is2.mp q))).symm, rfl, rfl⟩

set_option maxHeartbeats 4000000 in
set_option maxRecDepth 100000 in
theorem m_isDigit (G : sv_G) (h : sv_h) (z : Nat) (c : Int32) : CT G mX13_isDigit [.int c] h z (fun v h1 z1 => v = some (.int (if lx_so c = 3 then 1 else 0)) ∧ h1 = h ∧ z1 = z) := by
  refine CT.of (by decide +kernel) rfl rfl (Nat.le_of_ble_eq_true rfl) ?_
  refine v_iload_n dX13_isDigit_0 rfl 0 rfl ?_
  refine v_bipush (v := 48) dX13_isDigit_1 (by decide) ?_
  refine v_icmp_lt (tgt := 16) dX13_isDigit_3 (by decide) (fun c_3 => ?_) (fun c_3 => ?_)
  · refine v_iconst (v := 0) dX13_isDigit_16 (by decide) ?_
    exact v_iret rfl dX13_isDigit_17 (Nat.le_of_ble_eq_true rfl) (Nat.le_of_ble_eq_true rfl) rfl ⟨by first | exact congrArg (fun i => some (Value.int i)) (if_pos (lx_is3.mpr ⟨Int32.not_lt.mp c_3, Int32.not_lt.mp c_9⟩)).symm | exact congrArg (fun i => some (Value.int i)) (if_neg (fun q => sv_ng c_9 (lx_is3.mp q))).symm | exact congrArg (fun i => some (Value.int i)) (if_neg (fun q => sv_nl c_3 (lx_is3.mp q))).symm, rfl, rfl⟩
  · refine v_iload_n dX13_isDigit_6 rfl 0 rfl ?_
    refine v_bipush (v := 57) dX13_isDigit_7 (by decide) ?_
    refine v_icmp_gt (tgt := 16) dX13_isDigit_9 (by decide) (fun c_9 => ?_) (fun c_9 => ?_)
    · refine v_iconst (v := 0) dX13_isDigit_16 (by decide) ?_
      exact v_iret rfl dX13_isDigit_17 (Nat.le_of_ble_eq_true rfl) (Nat.le_of_ble_eq_true rfl) rfl ⟨by first | exact congrArg (fun i => some (Value.int i)) (if_pos (lx_is3.mpr ⟨Int32.not_lt.mp c_3, Int32.not_lt.mp c_9⟩)).symm | exact congrArg (fun i => some (Value.int i)) (if_neg (fun q => sv_ng c_9 (lx_is3.mp q))).symm | exact congrArg (fun i => some (Value.int i)) (if_neg (fun q => sv_nl c_3 (lx_is3.mp q))).symm, rfl, rfl⟩
    · refine v_iconst (v := 1) dX13_isDigit_12 (by decide) ?_
      refine v_goto (tgt := 17) dX13_isDigit_13 (by decide) ?_
      exact v_iret rfl dX13_isDigit_17 (Nat.le_of_ble_eq_true rfl) (Nat.le_of_ble_eq_true rfl) rfl ⟨by first | exact congrArg (fun i => some (Value.int i)) (if_pos (lx_is3.mpr ⟨Int32.not_lt.mp c_3, Int32.not_lt.mp c_9⟩)).symm | exact congrArg (fun i => some (Value.int i)) (if_neg (fun q => sv_ng c_9 (lx_is3.mp q))).symm | exact congrArg (fun i => some (Value.int i)) (if_neg (fun q => sv_nl c_3 (lx_is3.mp q))).symm, rfl, rfl⟩

set_option maxHeartbeats 4000000 in
set_option maxRecDepth 100000 in
theorem l_next2 (G : sv_G) (h : sv_h) (z b n : Nat) (fs : List Value) (f tp : Nat → Int32) (wd : Int32) (ht2 : ab_I G h (b + 232) 600 f) (htp : ∀ i, i < n → f i = tp i) (hn : n ≤ 600) (p a : Nat) (ha : a < n) (hK : lx_K n tp p a) : ∀ (c j : Nat) (hi : sv_h) (F : List Value), a + 1 + j + c = n → (0 < j → lx_so (tp a) = 2 ∨ lx_so (tp a) = 3) → (∀ i, a ≤ i → i < a + 1 + j → lx_so (tp i) = lx_so (tp a)) → hi (b + 220) = some (.inr (11, F)) → F.length = 71 ∧ F[69]? = some (.int wd) ∧ F[67]? = some (.int (nI a)) ∧ F[68]? = some (.int (nI (a + 1 + j))) ∧ F[17]? = some (.int (nI n)) ∧ F[16]? = some (.ref (b + 232)) ∧ (∀ i, i ≠ 69 → i ≠ 67 → i ≠ 68 → F[i]? = fs[i]?) → (∀ w, w ≠ b + 220 → hi w = h w) → V G mX13_next (sv_MQ G mX13_next (fun v h1 z1 => v = none ∧ z1 = z ∧ (∃ (a e : Nat) (F : List Value), lx_T n tp p a e ∧ h1 (b + 220) = some (.inr (11, F)) ∧ F.length = 71 ∧ F[69]? = some (.int wd) ∧ F[67]? = some (.int (nI a)) ∧ F[68]? = some (.int (nI e)) ∧ F[17]? = some (.int (nI n)) ∧ F[16]? = some (.ref (b + 232)) ∧ (∀ i, i ≠ 69 → i ≠ 67 → i ≠ 68 → F[i]? = fs[i]?)) ∧ ∀ w, w ≠ b + 220 → h1 w = h w)) 126 [(2, .int (if lx_so (tp a) = 3 then 1 else 0)), (1, .int (if lx_so (tp a) = 2 then 1 else 0)), (0, .ref (b + 220))] [] hi z 0 0 := by
  intro c
  induction c with
  | zero =>
    intro j hi F hjc hj0 hj hm ⟨g0, g1, g2, g3, g4, g5, g6⟩ hfr
    refine v_aload_n dX13_next_126 rfl 2 rfl ?_
    refine v_getf 68 (ci := 11) (C := RX13) (T := TX13) (N := 71) rfl iwX13_next_X13 (Nat.le_of_ble_eq_true rfl) (by decide +kernel) dX13_next_127 (by first | with_reducible assumption | (with_reducible refine sv_us.trans ?_; exact rfl) | exact (hfr _ (by omega)).trans ht2 | (repeat (first | (with_reducible refine sv_us.trans ?_; exact rfl) | with_reducible exact (hfr _ (by omega)).trans ht2 | with_reducible refine (sv_un (by omega)).trans ?_))) (by repeat (first | with_reducible assumption | (with_reducible refine (sv_ls (by first | omega | (simp only [List.length_set]; omega))).trans ?_; exact rfl) | with_reducible refine (List.getElem?_set_ne (by decide)).trans ?_)) ?_
    refine v_aload_n dX13_next_130 rfl 2 rfl ?_
    refine v_getf 17 (ci := 11) (C := RX13) (T := TX13) (N := 71) rfl iwX13_next_X13 (Nat.le_of_ble_eq_true rfl) (by decide +kernel) dX13_next_131 (by first | with_reducible assumption | (with_reducible refine sv_us.trans ?_; exact rfl) | exact (hfr _ (by omega)).trans ht2 | (repeat (first | (with_reducible refine sv_us.trans ?_; exact rfl) | with_reducible exact (hfr _ (by omega)).trans ht2 | with_reducible refine (sv_un (by omega)).trans ?_))) (by repeat (first | with_reducible assumption | (with_reducible refine (sv_ls (by first | omega | (simp only [List.length_set]; omega))).trans ?_; exact rfl) | with_reducible refine (List.getElem?_set_ne (by decide)).trans ?_)) ?_
    refine v_icmp_ge (tgt := 188) dX13_next_134 (by decide) (fun c_134 => ?_) (fun c_134 => ?_)
    · exact v_ret rfl dX13_next_188 (Nat.le_of_ble_eq_true rfl) (Nat.le_of_ble_eq_true rfl) ⟨rfl, rfl, ⟨a, a + 1 + j, F, ⟨hK, (by
        by_cases q : lx_so (tp a) = 2 ∨ lx_so (tp a) = 3
        · exact Or.inr (Or.inl ⟨ha, q, by omega, by omega, hj, fun r => absurd r (by omega)⟩)
        · have j0 : j = 0 := (by rcases Nat.eq_zero_or_pos j with w | w; exact w; exact absurd (hj0 w) q)
          exact Or.inr (Or.inr ⟨ha, q, by omega⟩))⟩, hm, g0, g1, g2, g3, g4, g5, g6⟩, hfr⟩
    · exact absurd (show nI n ≤ nI (a + 1 + j) from nI_le (by omega) (by omega)) c_134
  | succ c ih =>
    intro j hi F hjc hj0 hj hm ⟨g0, g1, g2, g3, g4, g5, g6⟩ hfr
    refine v_aload_n dX13_next_126 rfl 2 rfl ?_
    refine v_getf 68 (ci := 11) (C := RX13) (T := TX13) (N := 71) rfl iwX13_next_X13 (Nat.le_of_ble_eq_true rfl) (by decide +kernel) dX13_next_127 (by first | with_reducible assumption | (with_reducible refine sv_us.trans ?_; exact rfl) | exact (hfr _ (by omega)).trans ht2 | (repeat (first | (with_reducible refine sv_us.trans ?_; exact rfl) | with_reducible exact (hfr _ (by omega)).trans ht2 | with_reducible refine (sv_un (by omega)).trans ?_))) (by repeat (first | with_reducible assumption | (with_reducible refine (sv_ls (by first | omega | (simp only [List.length_set]; omega))).trans ?_; exact rfl) | with_reducible refine (List.getElem?_set_ne (by decide)).trans ?_)) ?_
    refine v_aload_n dX13_next_130 rfl 2 rfl ?_
    refine v_getf 17 (ci := 11) (C := RX13) (T := TX13) (N := 71) rfl iwX13_next_X13 (Nat.le_of_ble_eq_true rfl) (by decide +kernel) dX13_next_131 (by first | with_reducible assumption | (with_reducible refine sv_us.trans ?_; exact rfl) | exact (hfr _ (by omega)).trans ht2 | (repeat (first | (with_reducible refine sv_us.trans ?_; exact rfl) | with_reducible exact (hfr _ (by omega)).trans ht2 | with_reducible refine (sv_un (by omega)).trans ?_))) (by repeat (first | with_reducible assumption | (with_reducible refine (sv_ls (by first | omega | (simp only [List.length_set]; omega))).trans ?_; exact rfl) | with_reducible refine (List.getElem?_set_ne (by decide)).trans ?_)) ?_
    refine v_icmp_ge (tgt := 188) dX13_next_134 (by decide) (fun c_134 => ?_) (fun c_134 => ?_)
    · exact absurd c_134 (nI_ge (by omega) (by omega))
    · refine v_iload_n dX13_next_137 rfl 1 rfl ?_
      refine v_if_eq (tgt := 156) dX13_next_138 (by decide) (fun c_138 => ?_) (fun c_138 => ?_)
      · refine v_iload_n dX13_next_156 rfl 0 rfl ?_
        refine v_if_eq (tgt := 188) dX13_next_157 (by decide) (fun c_157 => ?_) (fun c_157 => ?_)
        · exact v_ret rfl dX13_next_188 (Nat.le_of_ble_eq_true rfl) (Nat.le_of_ble_eq_true rfl) ⟨rfl, rfl, ⟨a, a + 1 + j, F, ⟨hK, (by
        by_cases q : lx_so (tp a) = 2 ∨ lx_so (tp a) = 3
        · exact Or.inr (Or.inl ⟨ha, q, by omega, by omega, hj, fun r => (by
            intro s
            rcases q with q | q
            · first
              | exact sv_ift c_138 q
              | exact sv_ift c_153 (s.trans q)
            · first
              | exact sv_ift c_157 q
              | exact sv_ift c_172 (s.trans q))⟩)
        · have j0 : j = 0 := (by rcases Nat.eq_zero_or_pos j with w | w; exact w; exact absurd (hj0 w) q)
          exact Or.inr (Or.inr ⟨ha, q, by omega⟩))⟩, hm, g0, g1, g2, g3, g4, g5, g6⟩, hfr⟩
        · refine v_aload_n dX13_next_160 rfl 2 rfl ?_
          refine v_getf 16 (ci := 11) (C := RX13) (T := TX13) (N := 71) rfl iwX13_next_X13 (Nat.le_of_ble_eq_true rfl) (by decide +kernel) dX13_next_161 (by first | with_reducible assumption | (with_reducible refine sv_us.trans ?_; exact rfl) | exact (hfr _ (by omega)).trans ht2 | (repeat (first | (with_reducible refine sv_us.trans ?_; exact rfl) | with_reducible exact (hfr _ (by omega)).trans ht2 | with_reducible refine (sv_un (by omega)).trans ?_))) (by repeat (first | with_reducible assumption | (with_reducible refine (sv_ls (by first | omega | (simp only [List.length_set]; omega))).trans ?_; exact rfl) | with_reducible refine (List.getElem?_set_ne (by decide)).trans ?_)) ?_
          refine v_aload_n dX13_next_164 rfl 2 rfl ?_
          refine v_getf 68 (ci := 11) (C := RX13) (T := TX13) (N := 71) rfl iwX13_next_X13 (Nat.le_of_ble_eq_true rfl) (by decide +kernel) dX13_next_165 (by first | with_reducible assumption | (with_reducible refine sv_us.trans ?_; exact rfl) | exact (hfr _ (by omega)).trans ht2 | (repeat (first | (with_reducible refine sv_us.trans ?_; exact rfl) | with_reducible exact (hfr _ (by omega)).trans ht2 | with_reducible refine (sv_un (by omega)).trans ?_))) (by repeat (first | with_reducible assumption | (with_reducible refine (sv_ls (by first | omega | (simp only [List.length_set]; omega))).trans ?_; exact rfl) | with_reducible refine (List.getElem?_set_ne (by decide)).trans ?_)) ?_
          refine v_ialdS (v := tp (a + 1 + j)) dX13_next_168 (by first | with_reducible assumption | (with_reducible refine sv_us.trans ?_; exact rfl) | exact (hfr _ (by omega)).trans ht2 | (repeat (first | (with_reducible refine sv_us.trans ?_; exact rfl) | with_reducible exact (hfr _ (by omega)).trans ht2 | with_reducible refine (sv_un (by omega)).trans ?_))) (vp_in_nI (by omega) (by omega)) (by rw [nI_clamp (by omega)]; exact htp _ (by omega)) ?_
          refine v_callSq (M' := mX13_isDigit) (n := 1) (As := [_]) ggX13_next_X13_isDigit (by decide +kernel) (by decide +kernel) (by decide +kernel) rfl (by decide +kernel) ⟨(Nat.le_of_ble_eq_true rfl), (Nat.le_of_ble_eq_true rfl)⟩ dX13_next_169 rfl ⟨(Nat.le_of_ble_eq_true rfl), (Nat.le_of_ble_eq_true rfl)⟩ (Nat.le_of_ble_eq_true rfl) rfl (m_isDigit G _ _ _) (fun v h1 z1 hq => v_pq hq ?_)
          refine v_if_eq (tgt := 188) dX13_next_172 (by decide) (fun c_172 => ?_) (fun c_172 => ?_)
          · exact v_ret rfl dX13_next_188 (Nat.le_of_ble_eq_true rfl) (Nat.le_of_ble_eq_true rfl) ⟨rfl, rfl, ⟨a, a + 1 + j, F, ⟨hK, (by
        by_cases q : lx_so (tp a) = 2 ∨ lx_so (tp a) = 3
        · exact Or.inr (Or.inl ⟨ha, q, by omega, by omega, hj, fun r => (by
            intro s
            rcases q with q | q
            · first
              | exact sv_ift c_138 q
              | exact sv_ift c_153 (s.trans q)
            · first
              | exact sv_ift c_157 q
              | exact sv_ift c_172 (s.trans q))⟩)
        · have j0 : j = 0 := (by rcases Nat.eq_zero_or_pos j with w | w; exact w; exact absurd (hj0 w) q)
          exact Or.inr (Or.inr ⟨ha, q, by omega⟩))⟩, hm, g0, g1, g2, g3, g4, g5, g6⟩, hfr⟩
          · refine v_aload_n dX13_next_175 rfl 2 rfl ?_
            refine v_dup dX13_next_176 rfl ?_
            refine v_getf 68 (ci := 11) (C := RX13) (T := TX13) (N := 71) rfl iwX13_next_X13 (Nat.le_of_ble_eq_true rfl) (by decide +kernel) dX13_next_177 (by first | with_reducible assumption | (with_reducible refine sv_us.trans ?_; exact rfl) | exact (hfr _ (by omega)).trans ht2 | (repeat (first | (with_reducible refine sv_us.trans ?_; exact rfl) | with_reducible exact (hfr _ (by omega)).trans ht2 | with_reducible refine (sv_un (by omega)).trans ?_))) (by repeat (first | with_reducible assumption | (with_reducible refine (sv_ls (by first | omega | (simp only [List.length_set]; omega))).trans ?_; exact rfl) | with_reducible refine (List.getElem?_set_ne (by decide)).trans ?_)) ?_
            refine v_iconst (v := 1) dX13_next_180 (by decide) ?_
            refine v_iadd dX13_next_181 ?_
            refine v_putf 68 (fs' := _) (ci := 11) (C := RX13) (T := TX13) (N := 71) (ty := .int) rfl iwX13_next_X13 tyX13 tyX13_ok nmX13 (Nat.le_of_ble_eq_true rfl) (by decide +kernel) rfl rfl dX13_next_182 rfl rfl (by first | with_reducible assumption | (with_reducible refine sv_us.trans ?_; exact rfl) | exact (hfr _ (by omega)).trans ht2 | (repeat (first | (with_reducible refine sv_us.trans ?_; exact rfl) | with_reducible exact (hfr _ (by omega)).trans ht2 | with_reducible refine (sv_un (by omega)).trans ?_))) (by first | omega | (simp only [List.length_set]; omega)) rfl ?_
            refine v_goto (tgt := 126) dX13_next_185 (by decide) ?_
            refine v_sub (L' := [(2, _), (1, _), (0, _)]) [0, 1, 2] rfl ?_
            have hss : (lx_so (tp a) = 2 ∨ lx_so (tp a) = 3) ∧ lx_so (tp (a + 1 + j)) = lx_so (tp a) := by
              first
              | exact ⟨Or.inl (sv_ifn c_138), (sv_ifn c_153).trans (sv_ifn c_138).symm⟩
              | exact ⟨Or.inr (sv_ifn c_157), (sv_ifn c_172).trans (sv_ifn c_157).symm⟩
            refine ih (j + 1) _ _ (by omega) (fun _ => hss.1) (fun i h1 h2 => ?_) sv_us ⟨by rw [List.length_set]; exact g0, (List.getElem?_set_ne (by decide)).trans g1, (List.getElem?_set_ne (by decide)).trans g2, ?_, (List.getElem?_set_ne (by decide)).trans g4, (List.getElem?_set_ne (by decide)).trans g5, fun i q1 q2 q3 => (List.getElem?_set_ne (fun q => q3 q.symm)).trans (g6 i q1 q2 q3)⟩ (fun w q => (sv_un q).trans (hfr w q))
            · by_cases e : i = a + 1 + j
              · rw [e]; exact hss.2
              · exact hj i h1 (by omega)
            · rw [sv_ls (by omega), nI_1]; rfl
      · refine v_aload_n dX13_next_141 rfl 2 rfl ?_
        refine v_getf 16 (ci := 11) (C := RX13) (T := TX13) (N := 71) rfl iwX13_next_X13 (Nat.le_of_ble_eq_true rfl) (by decide +kernel) dX13_next_142 (by first | with_reducible assumption | (with_reducible refine sv_us.trans ?_; exact rfl) | exact (hfr _ (by omega)).trans ht2 | (repeat (first | (with_reducible refine sv_us.trans ?_; exact rfl) | with_reducible exact (hfr _ (by omega)).trans ht2 | with_reducible refine (sv_un (by omega)).trans ?_))) (by repeat (first | with_reducible assumption | (with_reducible refine (sv_ls (by first | omega | (simp only [List.length_set]; omega))).trans ?_; exact rfl) | with_reducible refine (List.getElem?_set_ne (by decide)).trans ?_)) ?_
        refine v_aload_n dX13_next_145 rfl 2 rfl ?_
        refine v_getf 68 (ci := 11) (C := RX13) (T := TX13) (N := 71) rfl iwX13_next_X13 (Nat.le_of_ble_eq_true rfl) (by decide +kernel) dX13_next_146 (by first | with_reducible assumption | (with_reducible refine sv_us.trans ?_; exact rfl) | exact (hfr _ (by omega)).trans ht2 | (repeat (first | (with_reducible refine sv_us.trans ?_; exact rfl) | with_reducible exact (hfr _ (by omega)).trans ht2 | with_reducible refine (sv_un (by omega)).trans ?_))) (by repeat (first | with_reducible assumption | (with_reducible refine (sv_ls (by first | omega | (simp only [List.length_set]; omega))).trans ?_; exact rfl) | with_reducible refine (List.getElem?_set_ne (by decide)).trans ?_)) ?_
        refine v_ialdS (v := tp (a + 1 + j)) dX13_next_149 (by first | with_reducible assumption | (with_reducible refine sv_us.trans ?_; exact rfl) | exact (hfr _ (by omega)).trans ht2 | (repeat (first | (with_reducible refine sv_us.trans ?_; exact rfl) | with_reducible exact (hfr _ (by omega)).trans ht2 | with_reducible refine (sv_un (by omega)).trans ?_))) (vp_in_nI (by omega) (by omega)) (by rw [nI_clamp (by omega)]; exact htp _ (by omega)) ?_
        refine v_callSq (M' := mX13_isLetter) (n := 1) (As := [_]) ggX13_next_X13_isLetter (by decide +kernel) (by decide +kernel) (by decide +kernel) rfl (by decide +kernel) ⟨(Nat.le_of_ble_eq_true rfl), (Nat.le_of_ble_eq_true rfl)⟩ dX13_next_150 rfl ⟨(Nat.le_of_ble_eq_true rfl), (Nat.le_of_ble_eq_true rfl)⟩ (Nat.le_of_ble_eq_true rfl) rfl (m_isLetter G _ _ _) (fun v h1 z1 hq => v_pq hq ?_)
        refine v_if_ne (tgt := 175) dX13_next_153 (by decide) (fun c_153 => ?_) (fun c_153 => ?_)
        · refine v_aload_n dX13_next_175 rfl 2 rfl ?_
          refine v_dup dX13_next_176 rfl ?_
          refine v_getf 68 (ci := 11) (C := RX13) (T := TX13) (N := 71) rfl iwX13_next_X13 (Nat.le_of_ble_eq_true rfl) (by decide +kernel) dX13_next_177 (by first | with_reducible assumption | (with_reducible refine sv_us.trans ?_; exact rfl) | exact (hfr _ (by omega)).trans ht2 | (repeat (first | (with_reducible refine sv_us.trans ?_; exact rfl) | with_reducible exact (hfr _ (by omega)).trans ht2 | with_reducible refine (sv_un (by omega)).trans ?_))) (by repeat (first | with_reducible assumption | (with_reducible refine (sv_ls (by first | omega | (simp only [List.length_set]; omega))).trans ?_; exact rfl) | with_reducible refine (List.getElem?_set_ne (by decide)).trans ?_)) ?_
          refine v_iconst (v := 1) dX13_next_180 (by decide) ?_
          refine v_iadd dX13_next_181 ?_
          refine v_putf 68 (fs' := _) (ci := 11) (C := RX13) (T := TX13) (N := 71) (ty := .int) rfl iwX13_next_X13 tyX13 tyX13_ok nmX13 (Nat.le_of_ble_eq_true rfl) (by decide +kernel) rfl rfl dX13_next_182 rfl rfl (by first | with_reducible assumption | (with_reducible refine sv_us.trans ?_; exact rfl) | exact (hfr _ (by omega)).trans ht2 | (repeat (first | (with_reducible refine sv_us.trans ?_; exact rfl) | with_reducible exact (hfr _ (by omega)).trans ht2 | with_reducible refine (sv_un (by omega)).trans ?_))) (by first | omega | (simp only [List.length_set]; omega)) rfl ?_
          refine v_goto (tgt := 126) dX13_next_185 (by decide) ?_
          refine v_sub (L' := [(2, _), (1, _), (0, _)]) [0, 1, 2] rfl ?_
          have hss : (lx_so (tp a) = 2 ∨ lx_so (tp a) = 3) ∧ lx_so (tp (a + 1 + j)) = lx_so (tp a) := by
            first
            | exact ⟨Or.inl (sv_ifn c_138), (sv_ifn c_153).trans (sv_ifn c_138).symm⟩
            | exact ⟨Or.inr (sv_ifn c_157), (sv_ifn c_172).trans (sv_ifn c_157).symm⟩
          refine ih (j + 1) _ _ (by omega) (fun _ => hss.1) (fun i h1 h2 => ?_) sv_us ⟨by rw [List.length_set]; exact g0, (List.getElem?_set_ne (by decide)).trans g1, (List.getElem?_set_ne (by decide)).trans g2, ?_, (List.getElem?_set_ne (by decide)).trans g4, (List.getElem?_set_ne (by decide)).trans g5, fun i q1 q2 q3 => (List.getElem?_set_ne (fun q => q3 q.symm)).trans (g6 i q1 q2 q3)⟩ (fun w q => (sv_un q).trans (hfr w q))
          · by_cases e : i = a + 1 + j
            · rw [e]; exact hss.2
            · exact hj i h1 (by omega)
          · rw [sv_ls (by omega), nI_1]; rfl
        · refine v_iload_n dX13_next_156 rfl 0 rfl ?_
          refine v_if_eq (tgt := 188) dX13_next_157 (by decide) (fun c_157 => ?_) (fun c_157 => ?_)
          · exact v_ret rfl dX13_next_188 (Nat.le_of_ble_eq_true rfl) (Nat.le_of_ble_eq_true rfl) ⟨rfl, rfl, ⟨a, a + 1 + j, F, ⟨hK, (by
        by_cases q : lx_so (tp a) = 2 ∨ lx_so (tp a) = 3
        · exact Or.inr (Or.inl ⟨ha, q, by omega, by omega, hj, fun r => (by
            intro s
            rcases q with q | q
            · first
              | exact sv_ift c_138 q
              | exact sv_ift c_153 (s.trans q)
            · first
              | exact sv_ift c_157 q
              | exact sv_ift c_172 (s.trans q))⟩)
        · have j0 : j = 0 := (by rcases Nat.eq_zero_or_pos j with w | w; exact w; exact absurd (hj0 w) q)
          exact Or.inr (Or.inr ⟨ha, q, by omega⟩))⟩, hm, g0, g1, g2, g3, g4, g5, g6⟩, hfr⟩
          · refine v_aload_n dX13_next_160 rfl 2 rfl ?_
            refine v_getf 16 (ci := 11) (C := RX13) (T := TX13) (N := 71) rfl iwX13_next_X13 (Nat.le_of_ble_eq_true rfl) (by decide +kernel) dX13_next_161 (by first | with_reducible assumption | (with_reducible refine sv_us.trans ?_; exact rfl) | exact (hfr _ (by omega)).trans ht2 | (repeat (first | (with_reducible refine sv_us.trans ?_; exact rfl) | with_reducible exact (hfr _ (by omega)).trans ht2 | with_reducible refine (sv_un (by omega)).trans ?_))) (by repeat (first | with_reducible assumption | (with_reducible refine (sv_ls (by first | omega | (simp only [List.length_set]; omega))).trans ?_; exact rfl) | with_reducible refine (List.getElem?_set_ne (by decide)).trans ?_)) ?_
            refine v_aload_n dX13_next_164 rfl 2 rfl ?_
            refine v_getf 68 (ci := 11) (C := RX13) (T := TX13) (N := 71) rfl iwX13_next_X13 (Nat.le_of_ble_eq_true rfl) (by decide +kernel) dX13_next_165 (by first | with_reducible assumption | (with_reducible refine sv_us.trans ?_; exact rfl) | exact (hfr _ (by omega)).trans ht2 | (repeat (first | (with_reducible refine sv_us.trans ?_; exact rfl) | with_reducible exact (hfr _ (by omega)).trans ht2 | with_reducible refine (sv_un (by omega)).trans ?_))) (by repeat (first | with_reducible assumption | (with_reducible refine (sv_ls (by first | omega | (simp only [List.length_set]; omega))).trans ?_; exact rfl) | with_reducible refine (List.getElem?_set_ne (by decide)).trans ?_)) ?_
            refine v_ialdS (v := tp (a + 1 + j)) dX13_next_168 (by first | with_reducible assumption | (with_reducible refine sv_us.trans ?_; exact rfl) | exact (hfr _ (by omega)).trans ht2 | (repeat (first | (with_reducible refine sv_us.trans ?_; exact rfl) | with_reducible exact (hfr _ (by omega)).trans ht2 | with_reducible refine (sv_un (by omega)).trans ?_))) (vp_in_nI (by omega) (by omega)) (by rw [nI_clamp (by omega)]; exact htp _ (by omega)) ?_
            refine v_callSq (M' := mX13_isDigit) (n := 1) (As := [_]) ggX13_next_X13_isDigit (by decide +kernel) (by decide +kernel) (by decide +kernel) rfl (by decide +kernel) ⟨(Nat.le_of_ble_eq_true rfl), (Nat.le_of_ble_eq_true rfl)⟩ dX13_next_169 rfl ⟨(Nat.le_of_ble_eq_true rfl), (Nat.le_of_ble_eq_true rfl)⟩ (Nat.le_of_ble_eq_true rfl) rfl (m_isDigit G _ _ _) (fun v h1 z1 hq => v_pq hq ?_)
            refine v_if_eq (tgt := 188) dX13_next_172 (by decide) (fun c_172 => ?_) (fun c_172 => ?_)
            · exact v_ret rfl dX13_next_188 (Nat.le_of_ble_eq_true rfl) (Nat.le_of_ble_eq_true rfl) ⟨rfl, rfl, ⟨a, a + 1 + j, F, ⟨hK, (by
        by_cases q : lx_so (tp a) = 2 ∨ lx_so (tp a) = 3
        · exact Or.inr (Or.inl ⟨ha, q, by omega, by omega, hj, fun r => (by
            intro s
            rcases q with q | q
            · first
              | exact sv_ift c_138 q
              | exact sv_ift c_153 (s.trans q)
            · first
              | exact sv_ift c_157 q
              | exact sv_ift c_172 (s.trans q))⟩)
        · have j0 : j = 0 := (by rcases Nat.eq_zero_or_pos j with w | w; exact w; exact absurd (hj0 w) q)
          exact Or.inr (Or.inr ⟨ha, q, by omega⟩))⟩, hm, g0, g1, g2, g3, g4, g5, g6⟩, hfr⟩
            · refine v_aload_n dX13_next_175 rfl 2 rfl ?_
              refine v_dup dX13_next_176 rfl ?_
              refine v_getf 68 (ci := 11) (C := RX13) (T := TX13) (N := 71) rfl iwX13_next_X13 (Nat.le_of_ble_eq_true rfl) (by decide +kernel) dX13_next_177 (by first | with_reducible assumption | (with_reducible refine sv_us.trans ?_; exact rfl) | exact (hfr _ (by omega)).trans ht2 | (repeat (first | (with_reducible refine sv_us.trans ?_; exact rfl) | with_reducible exact (hfr _ (by omega)).trans ht2 | with_reducible refine (sv_un (by omega)).trans ?_))) (by repeat (first | with_reducible assumption | (with_reducible refine (sv_ls (by first | omega | (simp only [List.length_set]; omega))).trans ?_; exact rfl) | with_reducible refine (List.getElem?_set_ne (by decide)).trans ?_)) ?_
              refine v_iconst (v := 1) dX13_next_180 (by decide) ?_
              refine v_iadd dX13_next_181 ?_
              refine v_putf 68 (fs' := _) (ci := 11) (C := RX13) (T := TX13) (N := 71) (ty := .int) rfl iwX13_next_X13 tyX13 tyX13_ok nmX13 (Nat.le_of_ble_eq_true rfl) (by decide +kernel) rfl rfl dX13_next_182 rfl rfl (by first | with_reducible assumption | (with_reducible refine sv_us.trans ?_; exact rfl) | exact (hfr _ (by omega)).trans ht2 | (repeat (first | (with_reducible refine sv_us.trans ?_; exact rfl) | with_reducible exact (hfr _ (by omega)).trans ht2 | with_reducible refine (sv_un (by omega)).trans ?_))) (by first | omega | (simp only [List.length_set]; omega)) rfl ?_
              refine v_goto (tgt := 126) dX13_next_185 (by decide) ?_
              refine v_sub (L' := [(2, _), (1, _), (0, _)]) [0, 1, 2] rfl ?_
              have hss : (lx_so (tp a) = 2 ∨ lx_so (tp a) = 3) ∧ lx_so (tp (a + 1 + j)) = lx_so (tp a) := by
                first
                | exact ⟨Or.inl (sv_ifn c_138), (sv_ifn c_153).trans (sv_ifn c_138).symm⟩
                | exact ⟨Or.inr (sv_ifn c_157), (sv_ifn c_172).trans (sv_ifn c_157).symm⟩
              refine ih (j + 1) _ _ (by omega) (fun _ => hss.1) (fun i h1 h2 => ?_) sv_us ⟨by rw [List.length_set]; exact g0, (List.getElem?_set_ne (by decide)).trans g1, (List.getElem?_set_ne (by decide)).trans g2, ?_, (List.getElem?_set_ne (by decide)).trans g4, (List.getElem?_set_ne (by decide)).trans g5, fun i q1 q2 q3 => (List.getElem?_set_ne (fun q => q3 q.symm)).trans (g6 i q1 q2 q3)⟩ (fun w q => (sv_un q).trans (hfr w q))
              · by_cases e : i = a + 1 + j
                · rw [e]; exact hss.2
                · exact hj i h1 (by omega)
              · rw [sv_ls (by omega), nI_1]; rfl

