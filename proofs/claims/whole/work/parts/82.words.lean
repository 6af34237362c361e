/-- the sort of a character: 2 a letter, 3 a digit, 1 blank, 4 a sign, 5 none -/
def lx_so (c : Int32) : Int32 := if 97 ≤ c ∧ c ≤ 122 then 2 else if 48 ≤ c ∧ c ≤ 57 then 3 else if c = 32 ∨ c = 10 then 1 else if c = 60 ∨ c = 61 ∨ c = 59 then 4 else 5
/-- from p on blanks, up to q -/
def lx_K (n : Nat) (tp : Nat → Int32) (p q : Nat) : Prop := p ≤ q ∧ q ≤ n ∧ (∀ j, p ≤ j → j < q → lx_so (tp j) = 1) ∧ (q < n → ¬ lx_so (tp q) = 1)
/-- from a on characters of sort s, up to e -/
def lx_E (n : Nat) (tp : Nat → Int32) (s : Int32) (a e : Nat) : Prop := a ≤ e ∧ e ≤ n ∧ (∀ j, a ≤ j → j < e → lx_so (tp j) = s) ∧ (e < n → ¬ lx_so (tp e) = s)
/-- the word behind p goes from a to e -/
def lx_T (n : Nat) (tp : Nat → Int32) (p a e : Nat) : Prop := lx_K n tp p a ∧ ((a = n ∧ e = n) ∨ (a < n ∧ (lx_so (tp a) = 2 ∨ lx_so (tp a) = 3) ∧ lx_E n tp (lx_so (tp a)) a e) ∨ (a < n ∧ ¬ (lx_so (tp a) = 2 ∨ lx_so (tp a) = 3) ∧ e = a + 1))
theorem lx_K.un {n : Nat} {tp : Nat → Int32} {p q r : Nat} (h : lx_K n tp p q) (k : lx_K n tp p r) : q = r := by
  rcases Nat.lt_trichotomy q r with e | e | e
  · exact absurd (k.2.2.1 q h.1 e) (h.2.2.2 (by have := k.2.1; omega))
  · exact e
  · exact absurd (h.2.2.1 r k.1 e) (k.2.2.2 (by have := h.2.1; omega))
theorem lx_E.un {n : Nat} {tp : Nat → Int32} {s : Int32} {p q r : Nat} (h : lx_E n tp s p q) (k : lx_E n tp s p r) : q = r := by
  rcases Nat.lt_trichotomy q r with e | e | e
  · exact absurd (k.2.2.1 q h.1 e) (h.2.2.2 (by have := k.2.1; omega))
  · exact e
  · exact absurd (h.2.2.1 r k.1 e) (k.2.2.2 (by have := h.2.1; omega))
theorem lx_T.un {n : Nat} {tp : Nat → Int32} {p a e a1 e1 : Nat} (h : lx_T n tp p a e) (k : lx_T n tp p a1 e1) : a = a1 ∧ e = e1 := by
  obtain rfl := h.1.un k.1
  refine ⟨rfl, ?_⟩
  rcases h.2 with ⟨q1, q2⟩ | ⟨q1, q2, q3⟩ | ⟨q1, q2, q3⟩
  · rcases k.2 with ⟨r1, r2⟩ | ⟨r1, _⟩ | ⟨r1, _⟩
    · rw [q2, r2]
    · omega
    · omega
  · rcases k.2 with ⟨r1, r2⟩ | ⟨r1, r2, r3⟩ | ⟨r1, r2, r3⟩
    · omega
    · exact q3.un r3
    · exact absurd q2 r2
  · rcases k.2 with ⟨r1, r2⟩ | ⟨r1, r2, r3⟩ | ⟨r1, r2, r3⟩
    · omega
    · exact absurd r2 q2
    · rw [q3, r3]
/-- what the first k characters from a on are worth -/
def lx_va (tp : Nat → Int32) (zero : Int32) (base : Int64) (a : Nat) : Nat → Int64
  | 0 => 0
  | k + 1 => lx_va tp zero base a k * base + (tp (a + k) - zero).toInt64
/-- sort and worth of the word from a to e -/
def lx_ss (n : Nat) (tp : Nat → Int32) (a e : Nat) : Int32 := if a < n then (if lx_so (tp a) = 2 then (if 8 < e - a then 5 else 2) else if lx_so (tp a) = 3 then (if 9 < e - a then 5 else 3) else lx_so (tp a)) else 0
def lx_vv (n : Nat) (tp : Nat → Int32) (a e : Nat) : Int64 := if a < n then (if lx_so (tp a) = 2 then lx_va tp 96 27 a (e - a) else if lx_so (tp a) = 3 then lx_va tp 48 10 a (e - a) else (tp a).toInt64) else 0
theorem iwX6_stepOver_X6 : ∀ w ∈ wsX60, w ∈ wsX6_stepOver := by decide +kernel
theorem iwX6_stepOver_X9 : ∀ w ∈ wsX90, w ∈ wsX6_stepOver := by decide +kernel
set_option maxRecDepth 20000 in
theorem ggX6_stepOver_X6_sortOf : GoodIn wsX6_stepOver wsX6_sortOf := goodIn_r _ [11] (by decide +kernel) (by decide +kernel)
theorem dX6_stepOver_0 : decode cX6_stepOver 0 = .ok (.aload_n 0, 1) := by decide +kernel
theorem dX6_stepOver_1 : decode cX6_stepOver 1 = .ok (.getfield 29, 3) := by decide +kernel
theorem dX6_stepOver_4 : decode cX6_stepOver 4 = .ok (.aload_n 0, 1) := by decide +kernel
theorem dX6_stepOver_5 : decode cX6_stepOver 5 = .ok (.getfield 9, 3) := by decide +kernel
theorem dX6_stepOver_8 : decode cX6_stepOver 8 = .ok (.getfield 150, 3) := by decide +kernel
theorem dX6_stepOver_11 : decode cX6_stepOver 11 = .ok (.if_icmp .ge 65, 3) := by decide +kernel
theorem dX6_stepOver_14 : decode cX6_stepOver 14 = .ok (.aload_n 0, 1) := by decide +kernel
theorem dX6_stepOver_15 : decode cX6_stepOver 15 = .ok (.getfield 9, 3) := by decide +kernel
theorem dX6_stepOver_18 : decode cX6_stepOver 18 = .ok (.getfield 97, 3) := by decide +kernel
theorem dX6_stepOver_21 : decode cX6_stepOver 21 = .ok (.aload_n 0, 1) := by decide +kernel
theorem dX6_stepOver_22 : decode cX6_stepOver 22 = .ok (.getfield 29, 3) := by decide +kernel
theorem dX6_stepOver_25 : decode cX6_stepOver 25 = .ok (.iaload, 1) := by decide +kernel
theorem dX6_stepOver_26 : decode cX6_stepOver 26 = .ok (.invokestatic 153, 3) := by decide +kernel
theorem dX6_stepOver_29 : decode cX6_stepOver 29 = .ok (.aload_n 0, 1) := by decide +kernel
theorem dX6_stepOver_30 : decode cX6_stepOver 30 = .ok (.getfield 61, 3) := by decide +kernel
theorem dX6_stepOver_33 : decode cX6_stepOver 33 = .ok (.if_icmp .ne 43, 3) := by decide +kernel
theorem dX6_stepOver_36 : decode cX6_stepOver 36 = .ok (.aload_n 0, 1) := by decide +kernel
theorem dX6_stepOver_37 : decode cX6_stepOver 37 = .ok (.aload_n 0, 1) := by decide +kernel
theorem dX6_stepOver_38 : decode cX6_stepOver 38 = .ok (.getfield 68, 3) := by decide +kernel
theorem dX6_stepOver_41 : decode cX6_stepOver 41 = .ok (.iload_n 2, 1) := by decide +kernel
theorem dX6_stepOver_42 : decode cX6_stepOver 42 = .ok (.i2l, 1) := by decide +kernel
theorem dX6_stepOver_43 : decode cX6_stepOver 43 = .ok (.lmul, 1) := by decide +kernel
theorem dX6_stepOver_44 : decode cX6_stepOver 44 = .ok (.aload_n 0, 1) := by decide +kernel
theorem dX6_stepOver_45 : decode cX6_stepOver 45 = .ok (.getfield 9, 3) := by decide +kernel
theorem dX6_stepOver_48 : decode cX6_stepOver 48 = .ok (.getfield 97, 3) := by decide +kernel
theorem dX6_stepOver_51 : decode cX6_stepOver 51 = .ok (.aload_n 0, 1) := by decide +kernel
theorem dX6_stepOver_52 : decode cX6_stepOver 52 = .ok (.getfield 29, 3) := by decide +kernel
theorem dX6_stepOver_55 : decode cX6_stepOver 55 = .ok (.iaload, 1) := by decide +kernel
theorem dX6_stepOver_56 : decode cX6_stepOver 56 = .ok (.iload_n 1, 1) := by decide +kernel
theorem dX6_stepOver_57 : decode cX6_stepOver 57 = .ok (.isub, 1) := by decide +kernel
theorem dX6_stepOver_58 : decode cX6_stepOver 58 = .ok (.i2l, 1) := by decide +kernel
theorem dX6_stepOver_59 : decode cX6_stepOver 59 = .ok (.ladd, 1) := by decide +kernel
theorem dX6_stepOver_60 : decode cX6_stepOver 60 = .ok (.putfield 68, 3) := by decide +kernel
theorem dX6_stepOver_63 : decode cX6_stepOver 63 = .ok (.aload_n 0, 1) := by decide +kernel
theorem dX6_stepOver_64 : decode cX6_stepOver 64 = .ok (.dup, 1) := by decide +kernel
theorem dX6_stepOver_65 : decode cX6_stepOver 65 = .ok (.getfield 29, 3) := by decide +kernel
theorem dX6_stepOver_68 : decode cX6_stepOver 68 = .ok (.iconst 1, 1) := by decide +kernel
theorem dX6_stepOver_69 : decode cX6_stepOver 69 = .ok (.iadd, 1) := by decide +kernel
theorem dX6_stepOver_70 : decode cX6_stepOver 70 = .ok (.putfield 29, 3) := by decide +kernel
theorem dX6_stepOver_73 : decode cX6_stepOver 73 = .ok (.goto (-73), 3) := by decide +kernel
theorem dX6_stepOver_76 : decode cX6_stepOver 76 = .ok (.aload_n 0, 1) := by decide +kernel
theorem dX6_stepOver_77 : decode cX6_stepOver 77 = .ok (.getfield 29, 3) := by decide +kernel
theorem dX6_stepOver_80 : decode cX6_stepOver 80 = .ok (.aload_n 0, 1) := by decide +kernel
theorem dX6_stepOver_81 : decode cX6_stepOver 81 = .ok (.getfield 88, 3) := by decide +kernel
theorem dX6_stepOver_84 : decode cX6_stepOver 84 = .ok (.isub, 1) := by decide +kernel
theorem dX6_stepOver_85 : decode cX6_stepOver 85 = .ok (.iload_n 3, 1) := by decide +kernel
theorem dX6_stepOver_86 : decode cX6_stepOver 86 = .ok (.if_icmp .le 8, 3) := by decide +kernel
theorem dX6_stepOver_89 : decode cX6_stepOver 89 = .ok (.aload_n 0, 1) := by decide +kernel
theorem dX6_stepOver_90 : decode cX6_stepOver 90 = .ok (.iconst 5, 1) := by decide +kernel
theorem dX6_stepOver_91 : decode cX6_stepOver 91 = .ok (.putfield 61, 3) := by decide +kernel
theorem dX6_stepOver_94 : decode cX6_stepOver 94 = .ok (.return_, 1) := by decide +kernel
theorem dX6_sortOf_0 : decode cX6_sortOf 0 = .ok (.iload_n 0, 1) := by decide +kernel
theorem dX6_sortOf_1 : decode cX6_sortOf 1 = .ok (.bipush 97, 2) := by decide +kernel
theorem dX6_sortOf_3 : decode cX6_sortOf 3 = .ok (.if_icmp .lt 11, 3) := by decide +kernel
theorem dX6_sortOf_6 : decode cX6_sortOf 6 = .ok (.iload_n 0, 1) := by decide +kernel
theorem dX6_sortOf_7 : decode cX6_sortOf 7 = .ok (.bipush 122, 2) := by decide +kernel
theorem dX6_sortOf_9 : decode cX6_sortOf 9 = .ok (.if_icmp .gt 5, 3) := by decide +kernel
theorem dX6_sortOf_12 : decode cX6_sortOf 12 = .ok (.iconst 2, 1) := by decide +kernel
theorem dX6_sortOf_13 : decode cX6_sortOf 13 = .ok (.ireturn, 1) := by decide +kernel
theorem dX6_sortOf_14 : decode cX6_sortOf 14 = .ok (.iload_n 0, 1) := by decide +kernel
theorem dX6_sortOf_15 : decode cX6_sortOf 15 = .ok (.bipush 48, 2) := by decide +kernel
theorem dX6_sortOf_17 : decode cX6_sortOf 17 = .ok (.if_icmp .lt 11, 3) := by decide +kernel
theorem dX6_sortOf_20 : decode cX6_sortOf 20 = .ok (.iload_n 0, 1) := by decide +kernel
theorem dX6_sortOf_21 : decode cX6_sortOf 21 = .ok (.bipush 57, 2) := by decide +kernel
theorem dX6_sortOf_23 : decode cX6_sortOf 23 = .ok (.if_icmp .gt 5, 3) := by decide +kernel
theorem dX6_sortOf_26 : decode cX6_sortOf 26 = .ok (.iconst 3, 1) := by decide +kernel
theorem dX6_sortOf_27 : decode cX6_sortOf 27 = .ok (.ireturn, 1) := by decide +kernel
theorem dX6_sortOf_28 : decode cX6_sortOf 28 = .ok (.iload_n 0, 1) := by decide +kernel
theorem dX6_sortOf_29 : decode cX6_sortOf 29 = .ok (.bipush 32, 2) := by decide +kernel
theorem dX6_sortOf_31 : decode cX6_sortOf 31 = .ok (.if_icmp .eq 9, 3) := by decide +kernel
theorem dX6_sortOf_34 : decode cX6_sortOf 34 = .ok (.iload_n 0, 1) := by decide +kernel
theorem dX6_sortOf_35 : decode cX6_sortOf 35 = .ok (.bipush 10, 2) := by decide +kernel
theorem dX6_sortOf_37 : decode cX6_sortOf 37 = .ok (.if_icmp .ne 5, 3) := by decide +kernel
theorem dX6_sortOf_40 : decode cX6_sortOf 40 = .ok (.iconst 1, 1) := by decide +kernel
theorem dX6_sortOf_41 : decode cX6_sortOf 41 = .ok (.ireturn, 1) := by decide +kernel
theorem dX6_sortOf_42 : decode cX6_sortOf 42 = .ok (.iload_n 0, 1) := by decide +kernel
theorem dX6_sortOf_43 : decode cX6_sortOf 43 = .ok (.bipush 60, 2) := by decide +kernel
theorem dX6_sortOf_45 : decode cX6_sortOf 45 = .ok (.if_icmp .eq 15, 3) := by decide +kernel
theorem dX6_sortOf_48 : decode cX6_sortOf 48 = .ok (.iload_n 0, 1) := by decide +kernel
theorem dX6_sortOf_49 : decode cX6_sortOf 49 = .ok (.bipush 61, 2) := by decide +kernel
theorem dX6_sortOf_51 : decode cX6_sortOf 51 = .ok (.if_icmp .eq 9, 3) := by decide +kernel
theorem dX6_sortOf_54 : decode cX6_sortOf 54 = .ok (.iload_n 0, 1) := by decide +kernel
theorem dX6_sortOf_55 : decode cX6_sortOf 55 = .ok (.bipush 59, 2) := by decide +kernel
theorem dX6_sortOf_57 : decode cX6_sortOf 57 = .ok (.if_icmp .ne 7, 3) := by decide +kernel
theorem dX6_sortOf_60 : decode cX6_sortOf 60 = .ok (.iconst 4, 1) := by decide +kernel
theorem dX6_sortOf_61 : decode cX6_sortOf 61 = .ok (.goto 4, 3) := by decide +kernel
theorem dX6_sortOf_64 : decode cX6_sortOf 64 = .ok (.iconst 5, 1) := by decide +kernel
theorem dX6_sortOf_65 : decode cX6_sortOf 65 = .ok (.ireturn, 1) := by decide +kernel

set_option maxRecDepth 20000 in
theorem ggX6_step_X6_sortOf : GoodIn wsX6_step wsX6_sortOf := goodIn_r _ [12] (by decide +kernel) (by decide +kernel)
set_option maxRecDepth 20000 in
theorem ggX6_step_X6_stepOver : GoodIn wsX6_step wsX6_stepOver := goodIn_r _ [16, 2, 3, 4, 5, 8, 7, 6, 9, 10, 11, 12, 17, 18, 19, 20, 21, 22, 23, 24, 25, 26, 27] (by decide +kernel) (by decide +kernel)
set_option maxRecDepth 20000 in
theorem gX6_step_X6_stepOver : GoodIn wsX6_step (wsV RX6 156 RX6 yX6_stepOver wsX6_stepOver) := goodIn_app (goodIn_of _ (by decide +kernel)) ggX6_step_X6_stepOver
abbrev mX6_sortOf : sv_M := (cX6_sortOf, 1, yX6_sortOf, wsX6_sortOf, (some .int), { frames := 0, cells := 0, slots := 0, locals := 0 }, [])
theorem lx_2 {c : Int32} (h1 : 97 ≤ c) (h2 : c ≤ 122) : lx_so c = 2 := by rw [lx_so, if_pos ⟨h1, h2⟩]
theorem lx_3 {c : Int32} (h0 : ¬ (97 ≤ c ∧ c ≤ 122)) (h1 : 48 ≤ c) (h2 : c ≤ 57) : lx_so c = 3 := by rw [lx_so, if_neg h0, if_pos ⟨h1, h2⟩]
theorem lx_1 {c : Int32} (h0 : ¬ (97 ≤ c ∧ c ≤ 122)) (h1 : ¬ (48 ≤ c ∧ c ≤ 57)) (h2 : c = 32 ∨ c = 10) : lx_so c = 1 := by rw [lx_so, if_neg h0, if_neg h1, if_pos h2]
theorem lx_4 {c : Int32} (h0 : ¬ (97 ≤ c ∧ c ≤ 122)) (h1 : ¬ (48 ≤ c ∧ c ≤ 57)) (h2 : ¬ (c = 32 ∨ c = 10)) (h3 : c = 60 ∨ c = 61 ∨ c = 59) : lx_so c = 4 := by rw [lx_so, if_neg h0, if_neg h1, if_neg h2, if_pos h3]
theorem lx_5 {c : Int32} (h0 : ¬ (97 ≤ c ∧ c ≤ 122)) (h1 : ¬ (48 ≤ c ∧ c ≤ 57)) (h2 : ¬ (c = 32 ∨ c = 10)) (h3 : ¬ (c = 60 ∨ c = 61 ∨ c = 59)) : lx_so c = 5 := by rw [lx_so, if_neg h0, if_neg h1, if_neg h2, if_neg h3]
theorem sv_nl {a c : Int32} {p : Prop} (h : c < a) : ¬ (a ≤ c ∧ p) := fun q => Int32.not_le.mpr h q.1
theorem sv_ng {a b c : Int32} (h : b < c) : ¬ (a ≤ c ∧ c ≤ b) := fun q => Int32.not_le.mpr h q.2
set_option maxHeartbeats 4000000 in
set_option maxRecDepth 100000 in
theorem c_sortOf (G : sv_G) (h : sv_h) (z : Nat) (c : Int32) : CT G mX6_sortOf [.int c] h z (fun v h1 z1 => v = some (.int (lx_so c)) ∧ h1 = h ∧ z1 = z) := by
  refine CT.of (by decide +kernel) rfl rfl (Nat.le_of_ble_eq_true rfl) ?_
  refine v_iload_n dX6_sortOf_0 rfl 0 rfl ?_
  refine v_bipush (v := 97) dX6_sortOf_1 (by decide) ?_
  refine v_icmp_lt (tgt := 14) dX6_sortOf_3 (by decide) (fun c_3 => ?_) (fun c_3 => ?_)
  · refine v_iload_n dX6_sortOf_14 rfl 0 rfl ?_
    refine v_bipush (v := 48) dX6_sortOf_15 (by decide) ?_
    refine v_icmp_lt (tgt := 28) dX6_sortOf_17 (by decide) (fun c_17 => ?_) (fun c_17 => ?_)
    · refine v_iload_n dX6_sortOf_28 rfl 0 rfl ?_
      refine v_bipush (v := 32) dX6_sortOf_29 (by decide) ?_
      refine v_icmp_eq (tgt := 40) dX6_sortOf_31 (by decide) (fun c_31 => ?_) (fun c_31 => ?_)
      · refine v_iconst (v := 1) dX6_sortOf_40 (by decide) ?_
        exact v_iret rfl dX6_sortOf_41 (Nat.le_of_ble_eq_true rfl) (Nat.le_of_ble_eq_true rfl) rfl ⟨by rw [lx_1 (by first | exact sv_nl c_3 | exact sv_ng c_9) (by first | exact sv_nl c_17 | exact sv_ng c_23) (by first | exact Or.inl c_31 | exact Or.inr c_37)], rfl, rfl⟩
      · refine v_iload_n dX6_sortOf_34 rfl 0 rfl ?_
        refine v_bipush (v := 10) dX6_sortOf_35 (by decide) ?_
        refine v_icmp_ne (tgt := 42) dX6_sortOf_37 (by decide) (fun c_37 => ?_) (fun c_37 => ?_)
        · refine v_iload_n dX6_sortOf_42 rfl 0 rfl ?_
          refine v_bipush (v := 60) dX6_sortOf_43 (by decide) ?_
          refine v_icmp_eq (tgt := 60) dX6_sortOf_45 (by decide) (fun c_45 => ?_) (fun c_45 => ?_)
          · refine v_iconst (v := 4) dX6_sortOf_60 (by decide) ?_
            refine v_goto (tgt := 65) dX6_sortOf_61 (by decide) ?_
            exact v_iret rfl dX6_sortOf_65 (Nat.le_of_ble_eq_true rfl) (Nat.le_of_ble_eq_true rfl) rfl ⟨by first | rw [lx_4 (by first | exact sv_nl c_3 | exact sv_ng c_9) (by first | exact sv_nl c_17 | exact sv_ng c_23) (fun q => q.elim c_31 c_37) (Or.inl c_45)] | rw [lx_4 (by first | exact sv_nl c_3 | exact sv_ng c_9) (by first | exact sv_nl c_17 | exact sv_ng c_23) (fun q => q.elim c_31 c_37) (Or.inr (Or.inl c_51))] | rw [lx_4 (by first | exact sv_nl c_3 | exact sv_ng c_9) (by first | exact sv_nl c_17 | exact sv_ng c_23) (fun q => q.elim c_31 c_37) (Or.inr (Or.inr c_57))] | rw [lx_5 (by first | exact sv_nl c_3 | exact sv_ng c_9) (by first | exact sv_nl c_17 | exact sv_ng c_23) (fun q => q.elim c_31 c_37) (fun q => q.elim c_45 (fun r => r.elim c_51 c_57))], rfl, rfl⟩
          · refine v_iload_n dX6_sortOf_48 rfl 0 rfl ?_
            refine v_bipush (v := 61) dX6_sortOf_49 (by decide) ?_
            refine v_icmp_eq (tgt := 60) dX6_sortOf_51 (by decide) (fun c_51 => ?_) (fun c_51 => ?_)
            · refine v_iconst (v := 4) dX6_sortOf_60 (by decide) ?_
              refine v_goto (tgt := 65) dX6_sortOf_61 (by decide) ?_
              exact v_iret rfl dX6_sortOf_65 (Nat.le_of_ble_eq_true rfl) (Nat.le_of_ble_eq_true rfl) rfl ⟨by first | rw [lx_4 (by first | exact sv_nl c_3 | exact sv_ng c_9) (by first | exact sv_nl c_17 | exact sv_ng c_23) (fun q => q.elim c_31 c_37) (Or.inl c_45)] | rw [lx_4 (by first | exact sv_nl c_3 | exact sv_ng c_9) (by first | exact sv_nl c_17 | exact sv_ng c_23) (fun q => q.elim c_31 c_37) (Or.inr (Or.inl c_51))] | rw [lx_4 (by first | exact sv_nl c_3 | exact sv_ng c_9) (by first | exact sv_nl c_17 | exact sv_ng c_23) (fun q => q.elim c_31 c_37) (Or.inr (Or.inr c_57))] | rw [lx_5 (by first | exact sv_nl c_3 | exact sv_ng c_9) (by first | exact sv_nl c_17 | exact sv_ng c_23) (fun q => q.elim c_31 c_37) (fun q => q.elim c_45 (fun r => r.elim c_51 c_57))], rfl, rfl⟩
            · refine v_iload_n dX6_sortOf_54 rfl 0 rfl ?_
              refine v_bipush (v := 59) dX6_sortOf_55 (by decide) ?_
              refine v_icmp_ne (tgt := 64) dX6_sortOf_57 (by decide) (fun c_57 => ?_) (fun c_57 => ?_)
              · refine v_iconst (v := 5) dX6_sortOf_64 (by decide) ?_
                exact v_iret rfl dX6_sortOf_65 (Nat.le_of_ble_eq_true rfl) (Nat.le_of_ble_eq_true rfl) rfl ⟨by first | rw [lx_4 (by first | exact sv_nl c_3 | exact sv_ng c_9) (by first | exact sv_nl c_17 | exact sv_ng c_23) (fun q => q.elim c_31 c_37) (Or.inl c_45)] | rw [lx_4 (by first | exact sv_nl c_3 | exact sv_ng c_9) (by first | exact sv_nl c_17 | exact sv_ng c_23) (fun q => q.elim c_31 c_37) (Or.inr (Or.inl c_51))] | rw [lx_4 (by first | exact sv_nl c_3 | exact sv_ng c_9) (by first | exact sv_nl c_17 | exact sv_ng c_23) (fun q => q.elim c_31 c_37) (Or.inr (Or.inr c_57))] | rw [lx_5 (by first | exact sv_nl c_3 | exact sv_ng c_9) (by first | exact sv_nl c_17 | exact sv_ng c_23) (fun q => q.elim c_31 c_37) (fun q => q.elim c_45 (fun r => r.elim c_51 c_57))], rfl, rfl⟩
              · refine v_iconst (v := 4) dX6_sortOf_60 (by decide) ?_
                refine v_goto (tgt := 65) dX6_sortOf_61 (by decide) ?_
                exact v_iret rfl dX6_sortOf_65 (Nat.le_of_ble_eq_true rfl) (Nat.le_of_ble_eq_true rfl) rfl ⟨by first | rw [lx_4 (by first | exact sv_nl c_3 | exact sv_ng c_9) (by first | exact sv_nl c_17 | exact sv_ng c_23) (fun q => q.elim c_31 c_37) (Or.inl c_45)] | rw [lx_4 (by first | exact sv_nl c_3 | exact sv_ng c_9) (by first | exact sv_nl c_17 | exact sv_ng c_23) (fun q => q.elim c_31 c_37) (Or.inr (Or.inl c_51))] | rw [lx_4 (by first | exact sv_nl c_3 | exact sv_ng c_9) (by first | exact sv_nl c_17 | exact sv_ng c_23) (fun q => q.elim c_31 c_37) (Or.inr (Or.inr c_57))] | rw [lx_5 (by first | exact sv_nl c_3 | exact sv_ng c_9) (by first | exact sv_nl c_17 | exact sv_ng c_23) (fun q => q.elim c_31 c_37) (fun q => q.elim c_45 (fun r => r.elim c_51 c_57))], rfl, rfl⟩
        · refine v_iconst (v := 1) dX6_sortOf_40 (by decide) ?_
          exact v_iret rfl dX6_sortOf_41 (Nat.le_of_ble_eq_true rfl) (Nat.le_of_ble_eq_true rfl) rfl ⟨by rw [lx_1 (by first | exact sv_nl c_3 | exact sv_ng c_9) (by first | exact sv_nl c_17 | exact sv_ng c_23) (by first | exact Or.inl c_31 | exact Or.inr c_37)], rfl, rfl⟩
    · refine v_iload_n dX6_sortOf_20 rfl 0 rfl ?_
      refine v_bipush (v := 57) dX6_sortOf_21 (by decide) ?_
      refine v_icmp_gt (tgt := 28) dX6_sortOf_23 (by decide) (fun c_23 => ?_) (fun c_23 => ?_)
      · refine v_iload_n dX6_sortOf_28 rfl 0 rfl ?_
        refine v_bipush (v := 32) dX6_sortOf_29 (by decide) ?_
        refine v_icmp_eq (tgt := 40) dX6_sortOf_31 (by decide) (fun c_31 => ?_) (fun c_31 => ?_)
        · refine v_iconst (v := 1) dX6_sortOf_40 (by decide) ?_
          exact v_iret rfl dX6_sortOf_41 (Nat.le_of_ble_eq_true rfl) (Nat.le_of_ble_eq_true rfl) rfl ⟨by rw [lx_1 (by first | exact sv_nl c_3 | exact sv_ng c_9) (by first | exact sv_nl c_17 | exact sv_ng c_23) (by first | exact Or.inl c_31 | exact Or.inr c_37)], rfl, rfl⟩
        · refine v_iload_n dX6_sortOf_34 rfl 0 rfl ?_
          refine v_bipush (v := 10) dX6_sortOf_35 (by decide) ?_
          refine v_icmp_ne (tgt := 42) dX6_sortOf_37 (by decide) (fun c_37 => ?_) (fun c_37 => ?_)
          · refine v_iload_n dX6_sortOf_42 rfl 0 rfl ?_
            refine v_bipush (v := 60) dX6_sortOf_43 (by decide) ?_
            refine v_icmp_eq (tgt := 60) dX6_sortOf_45 (by decide) (fun c_45 => ?_) (fun c_45 => ?_)
            · refine v_iconst (v := 4) dX6_sortOf_60 (by decide) ?_
              refine v_goto (tgt := 65) dX6_sortOf_61 (by decide) ?_
              exact v_iret rfl dX6_sortOf_65 (Nat.le_of_ble_eq_true rfl) (Nat.le_of_ble_eq_true rfl) rfl ⟨by first | rw [lx_4 (by first | exact sv_nl c_3 | exact sv_ng c_9) (by first | exact sv_nl c_17 | exact sv_ng c_23) (fun q => q.elim c_31 c_37) (Or.inl c_45)] | rw [lx_4 (by first | exact sv_nl c_3 | exact sv_ng c_9) (by first | exact sv_nl c_17 | exact sv_ng c_23) (fun q => q.elim c_31 c_37) (Or.inr (Or.inl c_51))] | rw [lx_4 (by first | exact sv_nl c_3 | exact sv_ng c_9) (by first | exact sv_nl c_17 | exact sv_ng c_23) (fun q => q.elim c_31 c_37) (Or.inr (Or.inr c_57))] | rw [lx_5 (by first | exact sv_nl c_3 | exact sv_ng c_9) (by first | exact sv_nl c_17 | exact sv_ng c_23) (fun q => q.elim c_31 c_37) (fun q => q.elim c_45 (fun r => r.elim c_51 c_57))], rfl, rfl⟩
            · refine v_iload_n dX6_sortOf_48 rfl 0 rfl ?_
              refine v_bipush (v := 61) dX6_sortOf_49 (by decide) ?_
              refine v_icmp_eq (tgt := 60) dX6_sortOf_51 (by decide) (fun c_51 => ?_) (fun c_51 => ?_)
              · refine v_iconst (v := 4) dX6_sortOf_60 (by decide) ?_
                refine v_goto (tgt := 65) dX6_sortOf_61 (by decide) ?_
                exact v_iret rfl dX6_sortOf_65 (Nat.le_of_ble_eq_true rfl) (Nat.le_of_ble_eq_true rfl) rfl ⟨by first | rw [lx_4 (by first | exact sv_nl c_3 | exact sv_ng c_9) (by first | exact sv_nl c_17 | exact sv_ng c_23) (fun q => q.elim c_31 c_37) (Or.inl c_45)] | rw [lx_4 (by first | exact sv_nl c_3 | exact sv_ng c_9) (by first | exact sv_nl c_17 | exact sv_ng c_23) (fun q => q.elim c_31 c_37) (Or.inr (Or.inl c_51))] | rw [lx_4 (by first | exact sv_nl c_3 | exact sv_ng c_9) (by first | exact sv_nl c_17 | exact sv_ng c_23) (fun q => q.elim c_31 c_37) (Or.inr (Or.inr c_57))] | rw [lx_5 (by first | exact sv_nl c_3 | exact sv_ng c_9) (by first | exact sv_nl c_17 | exact sv_ng c_23) (fun q => q.elim c_31 c_37) (fun q => q.elim c_45 (fun r => r.elim c_51 c_57))], rfl, rfl⟩
              · refine v_iload_n dX6_sortOf_54 rfl 0 rfl ?_
                refine v_bipush (v := 59) dX6_sortOf_55 (by decide) ?_
                refine v_icmp_ne (tgt := 64) dX6_sortOf_57 (by decide) (fun c_57 => ?_) (fun c_57 => ?_)
                · refine v_iconst (v := 5) dX6_sortOf_64 (by decide) ?_
                  exact v_iret rfl dX6_sortOf_65 (Nat.le_of_ble_eq_true rfl) (Nat.le_of_ble_eq_true rfl) rfl ⟨by first | rw [lx_4 (by first | exact sv_nl c_3 | exact sv_ng c_9) (by first | exact sv_nl c_17 | exact sv_ng c_23) (fun q => q.elim c_31 c_37) (Or.inl c_45)] | rw [lx_4 (by first | exact sv_nl c_3 | exact sv_ng c_9) (by first | exact sv_nl c_17 | exact sv_ng c_23) (fun q => q.elim c_31 c_37) (Or.inr (Or.inl c_51))] | rw [lx_4 (by first | exact sv_nl c_3 | exact sv_ng c_9) (by first | exact sv_nl c_17 | exact sv_ng c_23) (fun q => q.elim c_31 c_37) (Or.inr (Or.inr c_57))] | rw [lx_5 (by first | exact sv_nl c_3 | exact sv_ng c_9) (by first | exact sv_nl c_17 | exact sv_ng c_23) (fun q => q.elim c_31 c_37) (fun q => q.elim c_45 (fun r => r.elim c_51 c_57))], rfl, rfl⟩
                · refine v_iconst (v := 4) dX6_sortOf_60 (by decide) ?_
                  refine v_goto (tgt := 65) dX6_sortOf_61 (by decide) ?_
                  exact v_iret rfl dX6_sortOf_65 (Nat.le_of_ble_eq_true rfl) (Nat.le_of_ble_eq_true rfl) rfl ⟨by first | rw [lx_4 (by first | exact sv_nl c_3 | exact sv_ng c_9) (by first | exact sv_nl c_17 | exact sv_ng c_23) (fun q => q.elim c_31 c_37) (Or.inl c_45)] | rw [lx_4 (by first | exact sv_nl c_3 | exact sv_ng c_9) (by first | exact sv_nl c_17 | exact sv_ng c_23) (fun q => q.elim c_31 c_37) (Or.inr (Or.inl c_51))] | rw [lx_4 (by first | exact sv_nl c_3 | exact sv_ng c_9) (by first | exact sv_nl c_17 | exact sv_ng c_23) (fun q => q.elim c_31 c_37) (Or.inr (Or.inr c_57))] | rw [lx_5 (by first | exact sv_nl c_3 | exact sv_ng c_9) (by first | exact sv_nl c_17 | exact sv_ng c_23) (fun q => q.elim c_31 c_37) (fun q => q.elim c_45 (fun r => r.elim c_51 c_57))], rfl, rfl⟩
          · refine v_iconst (v := 1) dX6_sortOf_40 (by decide) ?_
            exact v_iret rfl dX6_sortOf_41 (Nat.le_of_ble_eq_true rfl) (Nat.le_of_ble_eq_true rfl) rfl ⟨by rw [lx_1 (by first | exact sv_nl c_3 | exact sv_ng c_9) (by first | exact sv_nl c_17 | exact sv_ng c_23) (by first | exact Or.inl c_31 | exact Or.inr c_37)], rfl, rfl⟩
      · refine v_iconst (v := 3) dX6_sortOf_26 (by decide) ?_
        exact v_iret rfl dX6_sortOf_27 (Nat.le_of_ble_eq_true rfl) (Nat.le_of_ble_eq_true rfl) rfl ⟨by rw [lx_3 (by first | exact sv_nl c_3 | exact sv_ng c_9) (Int32.not_lt.mp c_17) (Int32.not_lt.mp c_23)], rfl, rfl⟩
  · refine v_iload_n dX6_sortOf_6 rfl 0 rfl ?_
    refine v_bipush (v := 122) dX6_sortOf_7 (by decide) ?_
    refine v_icmp_gt (tgt := 14) dX6_sortOf_9 (by decide) (fun c_9 => ?_) (fun c_9 => ?_)
    · refine v_iload_n dX6_sortOf_14 rfl 0 rfl ?_
      refine v_bipush (v := 48) dX6_sortOf_15 (by decide) ?_
      refine v_icmp_lt (tgt := 28) dX6_sortOf_17 (by decide) (fun c_17 => ?_) (fun c_17 => ?_)
      · refine v_iload_n dX6_sortOf_28 rfl 0 rfl ?_
        refine v_bipush (v := 32) dX6_sortOf_29 (by decide) ?_
        refine v_icmp_eq (tgt := 40) dX6_sortOf_31 (by decide) (fun c_31 => ?_) (fun c_31 => ?_)
        · refine v_iconst (v := 1) dX6_sortOf_40 (by decide) ?_
          exact v_iret rfl dX6_sortOf_41 (Nat.le_of_ble_eq_true rfl) (Nat.le_of_ble_eq_true rfl) rfl ⟨by rw [lx_1 (by first | exact sv_nl c_3 | exact sv_ng c_9) (by first | exact sv_nl c_17 | exact sv_ng c_23) (by first | exact Or.inl c_31 | exact Or.inr c_37)], rfl, rfl⟩
        · refine v_iload_n dX6_sortOf_34 rfl 0 rfl ?_
          refine v_bipush (v := 10) dX6_sortOf_35 (by decide) ?_
          refine v_icmp_ne (tgt := 42) dX6_sortOf_37 (by decide) (fun c_37 => ?_) (fun c_37 => ?_)
          · refine v_iload_n dX6_sortOf_42 rfl 0 rfl ?_
            refine v_bipush (v := 60) dX6_sortOf_43 (by decide) ?_
            refine v_icmp_eq (tgt := 60) dX6_sortOf_45 (by decide) (fun c_45 => ?_) (fun c_45 => ?_)
            · refine v_iconst (v := 4) dX6_sortOf_60 (by decide) ?_
              refine v_goto (tgt := 65) dX6_sortOf_61 (by decide) ?_
              exact v_iret rfl dX6_sortOf_65 (Nat.le_of_ble_eq_true rfl) (Nat.le_of_ble_eq_true rfl) rfl ⟨by first | rw [lx_4 (by first | exact sv_nl c_3 | exact sv_ng c_9) (by first | exact sv_nl c_17 | exact sv_ng c_23) (fun q => q.elim c_31 c_37) (Or.inl c_45)] | rw [lx_4 (by first | exact sv_nl c_3 | exact sv_ng c_9) (by first | exact sv_nl c_17 | exact sv_ng c_23) (fun q => q.elim c_31 c_37) (Or.inr (Or.inl c_51))] | rw [lx_4 (by first | exact sv_nl c_3 | exact sv_ng c_9) (by first | exact sv_nl c_17 | exact sv_ng c_23) (fun q => q.elim c_31 c_37) (Or.inr (Or.inr c_57))] | rw [lx_5 (by first | exact sv_nl c_3 | exact sv_ng c_9) (by first | exact sv_nl c_17 | exact sv_ng c_23) (fun q => q.elim c_31 c_37) (fun q => q.elim c_45 (fun r => r.elim c_51 c_57))], rfl, rfl⟩
            · refine v_iload_n dX6_sortOf_48 rfl 0 rfl ?_
              refine v_bipush (v := 61) dX6_sortOf_49 (by decide) ?_
              refine v_icmp_eq (tgt := 60) dX6_sortOf_51 (by decide) (fun c_51 => ?_) (fun c_51 => ?_)
              · refine v_iconst (v := 4) dX6_sortOf_60 (by decide) ?_
                refine v_goto (tgt := 65) dX6_sortOf_61 (by decide) ?_
                exact v_iret rfl dX6_sortOf_65 (Nat.le_of_ble_eq_true rfl) (Nat.le_of_ble_eq_true rfl) rfl ⟨by first | rw [lx_4 (by first | exact sv_nl c_3 | exact sv_ng c_9) (by first | exact sv_nl c_17 | exact sv_ng c_23) (fun q => q.elim c_31 c_37) (Or.inl c_45)] | rw [lx_4 (by first | exact sv_nl c_3 | exact sv_ng c_9) (by first | exact sv_nl c_17 | exact sv_ng c_23) (fun q => q.elim c_31 c_37) (Or.inr (Or.inl c_51))] | rw [lx_4 (by first | exact sv_nl c_3 | exact sv_ng c_9) (by first | exact sv_nl c_17 | exact sv_ng c_23) (fun q => q.elim c_31 c_37) (Or.inr (Or.inr c_57))] | rw [lx_5 (by first | exact sv_nl c_3 | exact sv_ng c_9) (by first | exact sv_nl c_17 | exact sv_ng c_23) (fun q => q.elim c_31 c_37) (fun q => q.elim c_45 (fun r => r.elim c_51 c_57))], rfl, rfl⟩
              · refine v_iload_n dX6_sortOf_54 rfl 0 rfl ?_
                refine v_bipush (v := 59) dX6_sortOf_55 (by decide) ?_
                refine v_icmp_ne (tgt := 64) dX6_sortOf_57 (by decide) (fun c_57 => ?_) (fun c_57 => ?_)
                · refine v_iconst (v := 5) dX6_sortOf_64 (by decide) ?_
                  exact v_iret rfl dX6_sortOf_65 (Nat.le_of_ble_eq_true rfl) (Nat.le_of_ble_eq_true rfl) rfl ⟨by first | rw [lx_4 (by first | exact sv_nl c_3 | exact sv_ng c_9) (by first | exact sv_nl c_17 | exact sv_ng c_23) (fun q => q.elim c_31 c_37) (Or.inl c_45)] | rw [lx_4 (by first | exact sv_nl c_3 | exact sv_ng c_9) (by first | exact sv_nl c_17 | exact sv_ng c_23) (fun q => q.elim c_31 c_37) (Or.inr (Or.inl c_51))] | rw [lx_4 (by first | exact sv_nl c_3 | exact sv_ng c_9) (by first | exact sv_nl c_17 | exact sv_ng c_23) (fun q => q.elim c_31 c_37) (Or.inr (Or.inr c_57))] | rw [lx_5 (by first | exact sv_nl c_3 | exact sv_ng c_9) (by first | exact sv_nl c_17 | exact sv_ng c_23) (fun q => q.elim c_31 c_37) (fun q => q.elim c_45 (fun r => r.elim c_51 c_57))], rfl, rfl⟩
                · refine v_iconst (v := 4) dX6_sortOf_60 (by decide) ?_
                  refine v_goto (tgt := 65) dX6_sortOf_61 (by decide) ?_
                  exact v_iret rfl dX6_sortOf_65 (Nat.le_of_ble_eq_true rfl) (Nat.le_of_ble_eq_true rfl) rfl ⟨by first | rw [lx_4 (by first | exact sv_nl c_3 | exact sv_ng c_9) (by first | exact sv_nl c_17 | exact sv_ng c_23) (fun q => q.elim c_31 c_37) (Or.inl c_45)] | rw [lx_4 (by first | exact sv_nl c_3 | exact sv_ng c_9) (by first | exact sv_nl c_17 | exact sv_ng c_23) (fun q => q.elim c_31 c_37) (Or.inr (Or.inl c_51))] | rw [lx_4 (by first | exact sv_nl c_3 | exact sv_ng c_9) (by first | exact sv_nl c_17 | exact sv_ng c_23) (fun q => q.elim c_31 c_37) (Or.inr (Or.inr c_57))] | rw [lx_5 (by first | exact sv_nl c_3 | exact sv_ng c_9) (by first | exact sv_nl c_17 | exact sv_ng c_23) (fun q => q.elim c_31 c_37) (fun q => q.elim c_45 (fun r => r.elim c_51 c_57))], rfl, rfl⟩
          · refine v_iconst (v := 1) dX6_sortOf_40 (by decide) ?_
            exact v_iret rfl dX6_sortOf_41 (Nat.le_of_ble_eq_true rfl) (Nat.le_of_ble_eq_true rfl) rfl ⟨by rw [lx_1 (by first | exact sv_nl c_3 | exact sv_ng c_9) (by first | exact sv_nl c_17 | exact sv_ng c_23) (by first | exact Or.inl c_31 | exact Or.inr c_37)], rfl, rfl⟩
      · refine v_iload_n dX6_sortOf_20 rfl 0 rfl ?_
        refine v_bipush (v := 57) dX6_sortOf_21 (by decide) ?_
        refine v_icmp_gt (tgt := 28) dX6_sortOf_23 (by decide) (fun c_23 => ?_) (fun c_23 => ?_)
        · refine v_iload_n dX6_sortOf_28 rfl 0 rfl ?_
          refine v_bipush (v := 32) dX6_sortOf_29 (by decide) ?_
          refine v_icmp_eq (tgt := 40) dX6_sortOf_31 (by decide) (fun c_31 => ?_) (fun c_31 => ?_)
          · refine v_iconst (v := 1) dX6_sortOf_40 (by decide) ?_
            exact v_iret rfl dX6_sortOf_41 (Nat.le_of_ble_eq_true rfl) (Nat.le_of_ble_eq_true rfl) rfl ⟨by rw [lx_1 (by first | exact sv_nl c_3 | exact sv_ng c_9) (by first | exact sv_nl c_17 | exact sv_ng c_23) (by first | exact Or.inl c_31 | exact Or.inr c_37)], rfl, rfl⟩
          · refine v_iload_n dX6_sortOf_34 rfl 0 rfl ?_
            refine v_bipush (v := 10) dX6_sortOf_35 (by decide) ?_
            refine v_icmp_ne (tgt := 42) dX6_sortOf_37 (by decide) (fun c_37 => ?_) (fun c_37 => ?_)
            · refine v_iload_n dX6_sortOf_42 rfl 0 rfl ?_
              refine v_bipush (v := 60) dX6_sortOf_43 (by decide) ?_
              refine v_icmp_eq (tgt := 60) dX6_sortOf_45 (by decide) (fun c_45 => ?_) (fun c_45 => ?_)
              · refine v_iconst (v := 4) dX6_sortOf_60 (by decide) ?_
                refine v_goto (tgt := 65) dX6_sortOf_61 (by decide) ?_
                exact v_iret rfl dX6_sortOf_65 (Nat.le_of_ble_eq_true rfl) (Nat.le_of_ble_eq_true rfl) rfl ⟨by first | rw [lx_4 (by first | exact sv_nl c_3 | exact sv_ng c_9) (by first | exact sv_nl c_17 | exact sv_ng c_23) (fun q => q.elim c_31 c_37) (Or.inl c_45)] | rw [lx_4 (by first | exact sv_nl c_3 | exact sv_ng c_9) (by first | exact sv_nl c_17 | exact sv_ng c_23) (fun q => q.elim c_31 c_37) (Or.inr (Or.inl c_51))] | rw [lx_4 (by first | exact sv_nl c_3 | exact sv_ng c_9) (by first | exact sv_nl c_17 | exact sv_ng c_23) (fun q => q.elim c_31 c_37) (Or.inr (Or.inr c_57))] | rw [lx_5 (by first | exact sv_nl c_3 | exact sv_ng c_9) (by first | exact sv_nl c_17 | exact sv_ng c_23) (fun q => q.elim c_31 c_37) (fun q => q.elim c_45 (fun r => r.elim c_51 c_57))], rfl, rfl⟩
              · refine v_iload_n dX6_sortOf_48 rfl 0 rfl ?_
                refine v_bipush (v := 61) dX6_sortOf_49 (by decide) ?_
                refine v_icmp_eq (tgt := 60) dX6_sortOf_51 (by decide) (fun c_51 => ?_) (fun c_51 => ?_)
                · refine v_iconst (v := 4) dX6_sortOf_60 (by decide) ?_
                  refine v_goto (tgt := 65) dX6_sortOf_61 (by decide) ?_
                  exact v_iret rfl dX6_sortOf_65 (Nat.le_of_ble_eq_true rfl) (Nat.le_of_ble_eq_true rfl) rfl ⟨by first | rw [lx_4 (by first | exact sv_nl c_3 | exact sv_ng c_9) (by first | exact sv_nl c_17 | exact sv_ng c_23) (fun q => q.elim c_31 c_37) (Or.inl c_45)] | rw [lx_4 (by first | exact sv_nl c_3 | exact sv_ng c_9) (by first | exact sv_nl c_17 | exact sv_ng c_23) (fun q => q.elim c_31 c_37) (Or.inr (Or.inl c_51))] | rw [lx_4 (by first | exact sv_nl c_3 | exact sv_ng c_9) (by first | exact sv_nl c_17 | exact sv_ng c_23) (fun q => q.elim c_31 c_37) (Or.inr (Or.inr c_57))] | rw [lx_5 (by first | exact sv_nl c_3 | exact sv_ng c_9) (by first | exact sv_nl c_17 | exact sv_ng c_23) (fun q => q.elim c_31 c_37) (fun q => q.elim c_45 (fun r => r.elim c_51 c_57))], rfl, rfl⟩
                · refine v_iload_n dX6_sortOf_54 rfl 0 rfl ?_
                  refine v_bipush (v := 59) dX6_sortOf_55 (by decide) ?_
                  refine v_icmp_ne (tgt := 64) dX6_sortOf_57 (by decide) (fun c_57 => ?_) (fun c_57 => ?_)
                  · refine v_iconst (v := 5) dX6_sortOf_64 (by decide) ?_
                    exact v_iret rfl dX6_sortOf_65 (Nat.le_of_ble_eq_true rfl) (Nat.le_of_ble_eq_true rfl) rfl ⟨by first | rw [lx_4 (by first | exact sv_nl c_3 | exact sv_ng c_9) (by first | exact sv_nl c_17 | exact sv_ng c_23) (fun q => q.elim c_31 c_37) (Or.inl c_45)] | rw [lx_4 (by first | exact sv_nl c_3 | exact sv_ng c_9) (by first | exact sv_nl c_17 | exact sv_ng c_23) (fun q => q.elim c_31 c_37) (Or.inr (Or.inl c_51))] | rw [lx_4 (by first | exact sv_nl c_3 | exact sv_ng c_9) (by first | exact sv_nl c_17 | exact sv_ng c_23) (fun q => q.elim c_31 c_37) (Or.inr (Or.inr c_57))] | rw [lx_5 (by first | exact sv_nl c_3 | exact sv_ng c_9) (by first | exact sv_nl c_17 | exact sv_ng c_23) (fun q => q.elim c_31 c_37) (fun q => q.elim c_45 (fun r => r.elim c_51 c_57))], rfl, rfl⟩
                  · refine v_iconst (v := 4) dX6_sortOf_60 (by decide) ?_
                    refine v_goto (tgt := 65) dX6_sortOf_61 (by decide) ?_
                    exact v_iret rfl dX6_sortOf_65 (Nat.le_of_ble_eq_true rfl) (Nat.le_of_ble_eq_true rfl) rfl ⟨by first | rw [lx_4 (by first | exact sv_nl c_3 | exact sv_ng c_9) (by first | exact sv_nl c_17 | exact sv_ng c_23) (fun q => q.elim c_31 c_37) (Or.inl c_45)] | rw [lx_4 (by first | exact sv_nl c_3 | exact sv_ng c_9) (by first | exact sv_nl c_17 | exact sv_ng c_23) (fun q => q.elim c_31 c_37) (Or.inr (Or.inl c_51))] | rw [lx_4 (by first | exact sv_nl c_3 | exact sv_ng c_9) (by first | exact sv_nl c_17 | exact sv_ng c_23) (fun q => q.elim c_31 c_37) (Or.inr (Or.inr c_57))] | rw [lx_5 (by first | exact sv_nl c_3 | exact sv_ng c_9) (by first | exact sv_nl c_17 | exact sv_ng c_23) (fun q => q.elim c_31 c_37) (fun q => q.elim c_45 (fun r => r.elim c_51 c_57))], rfl, rfl⟩
            · refine v_iconst (v := 1) dX6_sortOf_40 (by decide) ?_
              exact v_iret rfl dX6_sortOf_41 (Nat.le_of_ble_eq_true rfl) (Nat.le_of_ble_eq_true rfl) rfl ⟨by rw [lx_1 (by first | exact sv_nl c_3 | exact sv_ng c_9) (by first | exact sv_nl c_17 | exact sv_ng c_23) (by first | exact Or.inl c_31 | exact Or.inr c_37)], rfl, rfl⟩
        · refine v_iconst (v := 3) dX6_sortOf_26 (by decide) ?_
          exact v_iret rfl dX6_sortOf_27 (Nat.le_of_ble_eq_true rfl) (Nat.le_of_ble_eq_true rfl) rfl ⟨by rw [lx_3 (by first | exact sv_nl c_3 | exact sv_ng c_9) (Int32.not_lt.mp c_17) (Int32.not_lt.mp c_23)], rfl, rfl⟩
    · refine v_iconst (v := 2) dX6_sortOf_12 (by decide) ?_
      exact v_iret rfl dX6_sortOf_13 (Nat.le_of_ble_eq_true rfl) (Nat.le_of_ble_eq_true rfl) rfl ⟨by rw [lx_2 (Int32.not_lt.mp c_3) (Int32.not_lt.mp c_9)], rfl, rfl⟩

