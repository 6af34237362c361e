set_option maxHeartbeats 4000000 in
set_option maxRecDepth 100000 in
theorem t_number (G : sv_G) (h : sv_h) (z b n : Nat) (fs F : List Value) (f tp : Nat → Int32) (wd : Int32) (a e : Nat) (r : Int32) (ht2 : ab_I G h (b + 232) 600 f) (htp : ∀ i, i < n → f i = tp i) (hn : n ≤ 600) (hae : a ≤ e) (hen : e ≤ n) (hm : h (b + 220) = some (.inr (11, F))) (H : mr_st b n fs F wd a e r) (bl : Int64) (hr : r = 0 ∨ r = 1) (y w6 : Int32) (hy : (y = 1 ∧ (a < e ∧ lx_so (tp a) = 3 ∧ e - a ≤ 9)) ∨ (y = 0 ∧ ¬ (a < e ∧ lx_so (tp a) = 3 ∧ e - a ≤ 9))) : V G mX13_number (sv_MQ G mX13_number (fun v h1 z1 => v = some (.long (if (a < e ∧ lx_so (tp a) = 3 ∧ e - a ≤ 9) then lx_va tp 48 10 a (e - a) else 0)) ∧ z1 = z ∧ (∃ F1 : List Value, h1 (b + 220) = some (.inr (11, F1)) ∧ ((r = 1 ∧ (a < e ∧ lx_so (tp a) = 3 ∧ e - a ≤ 9) ∧ (if (a < e ∧ lx_so (tp a) = 3 ∧ e - a ≤ 9) then lx_va tp 48 10 a (e - a) else 0) < bl ∧ ∃ a1 e1, lx_T n tp e a1 e1 ∧ mr_st b n fs F1 (wd + 1) a1 e1 1) ∨ (¬ (r = 1 ∧ (a < e ∧ lx_so (tp a) = 3 ∧ e - a ≤ 9) ∧ (if (a < e ∧ lx_so (tp a) = 3 ∧ e - a ≤ 9) then lx_va tp 48 10 a (e - a) else 0) < bl) ∧ mr_st b n fs F1 wd a e 0))) ∧ ∀ w, w ≠ b + 220 → h1 w = h w)) 95 [(6, .int w6), (4, .long (if (a < e ∧ lx_so (tp a) = 3 ∧ e - a ≤ 9) then lx_va tp 48 10 a (e - a) else 0)), (3, .int y), (0, .ref (b + 220)), (1, .long bl)] [] h z 0 0 := by
  obtain ⟨g0, g1, g2, g3, g4, g5, g6, g7⟩ := id H
  refine v_aload_n dX13_number_95 rfl 3 rfl ?_
  refine v_iload_n dX13_number_96 rfl 2 rfl ?_
  refine v_if_eq (tgt := 111) dX13_number_97 (by decide) (fun c_97 => ?_) (fun c_97 => ?_)
  · refine v_iconst (v := 0) dX13_number_111 (by decide) ?_
    refine v_callVq (M' := mX13_take_) (n := 1) (As := [_]) (ci := 11) (r := (RX13, TX13, 71)) gX13_number_X13_take_ rfl (by decide +kernel) ⟨(Nat.le_of_ble_eq_true rfl), (Nat.le_of_ble_eq_true rfl)⟩ rfl rfl dX13_number_112 rfl ⟨(Nat.le_of_ble_eq_true rfl), (Nat.le_of_ble_eq_true rfl)⟩ (Nat.le_of_ble_eq_true rfl) (by first | with_reducible assumption) rfl (m_take G h z b n fs F f tp wd a e r ht2 htp hn hae hen hm H _ hr (by first | exact Or.inl rfl | exact Or.inr rfl)) (fun v h1 z1 hq => ?_)
    obtain ⟨rfl, rfl, ⟨F1, k1, k2⟩, k3⟩ := hq
    refine v_lload dX13_number_115 1 rfl ?_
    exact v_lret rfl dX13_number_117 (Nat.le_of_ble_eq_true rfl) (Nat.le_of_ble_eq_true rfl) (by first | (have c9 : y = 0 := c_97; exact ⟨rfl, rfl, ⟨F1, k1, Or.inr ⟨fun q => absurd q.2.1 ((hy.resolve_left (fun s => by rw [s.1] at c9; exact absurd c9 (by decide))).2), (k2.resolve_left (fun q => absurd q.2.1 (by decide))).2⟩⟩, k3⟩) | (have c9 : bl ≤ (if (a < e ∧ lx_so (tp a) = 3 ∧ e - a ≤ 9) then lx_va tp 48 10 a (e - a) else 0) := c_104; exact ⟨rfl, rfl, ⟨F1, k1, Or.inr ⟨fun q => absurd q.2.2 (Int64.not_lt.mpr c9), (k2.resolve_left (fun q => absurd q.2.1 (by decide))).2⟩⟩, k3⟩) | (have c9 : ¬ bl ≤ (if (a < e ∧ lx_so (tp a) = 3 ∧ e - a ≤ 9) then lx_va tp 48 10 a (e - a) else 0) := c_104; have hg := (hy.resolve_right (fun s => c_97 s.1)).2; exact ⟨rfl, rfl, ⟨F1, k1, k2.imp (fun q => ⟨q.1, hg, Int64.not_le.mp c9, q.2.2⟩) (fun q => ⟨fun s => q.1 ⟨s.1, rfl⟩, q.2⟩)⟩, k3⟩))
  · refine v_lload dX13_number_100 1 rfl ?_
    refine v_lload_n dX13_number_102 rfl 4 rfl ?_
    refine v_lcmp_ge (tgt := 111) dX13_number_103 dX13_number_104 (by decide) (fun c_104 => ?_) (fun c_104 => ?_)
    · refine v_iconst (v := 0) dX13_number_111 (by decide) ?_
      refine v_callVq (M' := mX13_take_) (n := 1) (As := [_]) (ci := 11) (r := (RX13, TX13, 71)) gX13_number_X13_take_ rfl (by decide +kernel) ⟨(Nat.le_of_ble_eq_true rfl), (Nat.le_of_ble_eq_true rfl)⟩ rfl rfl dX13_number_112 rfl ⟨(Nat.le_of_ble_eq_true rfl), (Nat.le_of_ble_eq_true rfl)⟩ (Nat.le_of_ble_eq_true rfl) (by first | with_reducible assumption) rfl (m_take G h z b n fs F f tp wd a e r ht2 htp hn hae hen hm H _ hr (by first | exact Or.inl rfl | exact Or.inr rfl)) (fun v h1 z1 hq => ?_)
      obtain ⟨rfl, rfl, ⟨F1, k1, k2⟩, k3⟩ := hq
      refine v_lload dX13_number_115 1 rfl ?_
      exact v_lret rfl dX13_number_117 (Nat.le_of_ble_eq_true rfl) (Nat.le_of_ble_eq_true rfl) (by first | (have c9 : y = 0 := c_97; exact ⟨rfl, rfl, ⟨F1, k1, Or.inr ⟨fun q => absurd q.2.1 ((hy.resolve_left (fun s => by rw [s.1] at c9; exact absurd c9 (by decide))).2), (k2.resolve_left (fun q => absurd q.2.1 (by decide))).2⟩⟩, k3⟩) | (have c9 : bl ≤ (if (a < e ∧ lx_so (tp a) = 3 ∧ e - a ≤ 9) then lx_va tp 48 10 a (e - a) else 0) := c_104; exact ⟨rfl, rfl, ⟨F1, k1, Or.inr ⟨fun q => absurd q.2.2 (Int64.not_lt.mpr c9), (k2.resolve_left (fun q => absurd q.2.1 (by decide))).2⟩⟩, k3⟩) | (have c9 : ¬ bl ≤ (if (a < e ∧ lx_so (tp a) = 3 ∧ e - a ≤ 9) then lx_va tp 48 10 a (e - a) else 0) := c_104; have hg := (hy.resolve_right (fun s => c_97 s.1)).2; exact ⟨rfl, rfl, ⟨F1, k1, k2.imp (fun q => ⟨q.1, hg, Int64.not_le.mp c9, q.2.2⟩) (fun q => ⟨fun s => q.1 ⟨s.1, rfl⟩, q.2⟩)⟩, k3⟩))
    · refine v_iconst (v := 1) dX13_number_107 (by decide) ?_
      refine v_goto (tgt := 112) dX13_number_108 (by decide) ?_
      refine v_callVq (M' := mX13_take_) (n := 1) (As := [_]) (ci := 11) (r := (RX13, TX13, 71)) gX13_number_X13_take_ rfl (by decide +kernel) ⟨(Nat.le_of_ble_eq_true rfl), (Nat.le_of_ble_eq_true rfl)⟩ rfl rfl dX13_number_112 rfl ⟨(Nat.le_of_ble_eq_true rfl), (Nat.le_of_ble_eq_true rfl)⟩ (Nat.le_of_ble_eq_true rfl) (by first | with_reducible assumption) rfl (m_take G h z b n fs F f tp wd a e r ht2 htp hn hae hen hm H _ hr (by first | exact Or.inl rfl | exact Or.inr rfl)) (fun v h1 z1 hq => ?_)
      obtain ⟨rfl, rfl, ⟨F1, k1, k2⟩, k3⟩ := hq
      refine v_lload dX13_number_115 1 rfl ?_
      exact v_lret rfl dX13_number_117 (Nat.le_of_ble_eq_true rfl) (Nat.le_of_ble_eq_true rfl) (by first | (have c9 : y = 0 := c_97; exact ⟨rfl, rfl, ⟨F1, k1, Or.inr ⟨fun q => absurd q.2.1 ((hy.resolve_left (fun s => by rw [s.1] at c9; exact absurd c9 (by decide))).2), (k2.resolve_left (fun q => absurd q.2.1 (by decide))).2⟩⟩, k3⟩) | (have c9 : bl ≤ (if (a < e ∧ lx_so (tp a) = 3 ∧ e - a ≤ 9) then lx_va tp 48 10 a (e - a) else 0) := c_104; exact ⟨rfl, rfl, ⟨F1, k1, Or.inr ⟨fun q => absurd q.2.2 (Int64.not_lt.mpr c9), (k2.resolve_left (fun q => absurd q.2.1 (by decide))).2⟩⟩, k3⟩) | (have c9 : ¬ bl ≤ (if (a < e ∧ lx_so (tp a) = 3 ∧ e - a ≤ 9) then lx_va tp 48 10 a (e - a) else 0) := c_104; have hg := (hy.resolve_right (fun s => c_97 s.1)).2; exact ⟨rfl, rfl, ⟨F1, k1, k2.imp (fun q => ⟨q.1, hg, Int64.not_le.mp c9, q.2.2⟩) (fun q => ⟨fun s => q.1 ⟨s.1, rfl⟩, q.2⟩)⟩, k3⟩))

set_option maxHeartbeats 4000000 in
set_option maxRecDepth 100000 in
theorem l_number (G : sv_G) (h : sv_h) (z b n : Nat) (fs F : List Value) (f tp : Nat → Int32) (wd : Int32) (a e : Nat) (r : Int32) (ht2 : ab_I G h (b + 232) 600 f) (htp : ∀ i, i < n → f i = tp i) (hn : n ≤ 600) (hae : a ≤ e) (hen : e ≤ n) (hm : h (b + 220) = some (.inr (11, F))) (H : mr_st b n fs F wd a e r) (bl : Int64) (hr : r = 0 ∨ r = 1) (hok : ∀ i, i < n → tp i = 10 ∨ (32 ≤ tp i ∧ tp i ≤ 126)) (hg : (a < e ∧ lx_so (tp a) = 3 ∧ e - a ≤ 9)) : ∀ (c j : Nat), a + j + c = e → V G mX13_number (sv_MQ G mX13_number (fun v h1 z1 => v = some (.long (if (a < e ∧ lx_so (tp a) = 3 ∧ e - a ≤ 9) then lx_va tp 48 10 a (e - a) else 0)) ∧ z1 = z ∧ (∃ F1 : List Value, h1 (b + 220) = some (.inr (11, F1)) ∧ ((r = 1 ∧ (a < e ∧ lx_so (tp a) = 3 ∧ e - a ≤ 9) ∧ (if (a < e ∧ lx_so (tp a) = 3 ∧ e - a ≤ 9) then lx_va tp 48 10 a (e - a) else 0) < bl ∧ ∃ a1 e1, lx_T n tp e a1 e1 ∧ mr_st b n fs F1 (wd + 1) a1 e1 1) ∨ (¬ (r = 1 ∧ (a < e ∧ lx_so (tp a) = 3 ∧ e - a ≤ 9) ∧ (if (a < e ∧ lx_so (tp a) = 3 ∧ e - a ≤ 9) then lx_va tp 48 10 a (e - a) else 0) < bl) ∧ mr_st b n fs F1 wd a e 0))) ∧ ∀ w, w ≠ b + 220 → h1 w = h w)) 55 [(6, .int (nI (a + j))), (4, .long (lx_va tp 48 10 a j)), (3, .int 1), (0, .ref (b + 220)), (1, .long bl)] [] h z 0 0 := by
  obtain ⟨g0, g1, g2, g3, g4, g5, g6, g7⟩ := id H
  have hlen := g0
  have f_to := g3
  have f_tape := g6
  intro c
  induction c with
  | zero =>
    intro j hjc
    refine v_iload dX13_number_55 0 rfl ?_
    refine v_aload_n dX13_number_57 rfl 3 rfl ?_
    refine v_getf 68 (ci := 11) (C := RX13) (T := TX13) (N := 71) rfl iwX13_number_X13 (Nat.le_of_ble_eq_true rfl) (by decide +kernel) dX13_number_58 (by first | with_reducible assumption) (by repeat (first | with_reducible assumption | (with_reducible refine (sv_ls (by first | omega | (simp only [List.length_set]; omega))).trans ?_; exact rfl) | with_reducible refine (List.getElem?_set_ne (by decide)).trans ?_)) ?_
    refine v_icmp_ge (tgt := 95) dX13_number_61 (by decide) (fun c_61 => ?_) (fun c_61 => ?_)
    · have e9 := t_number G h z b n fs F f tp wd a e r ht2 htp hn hae hen hm H bl hr 1 (nI (a + j)) (Or.inl ⟨rfl, hg⟩)
      rw [show (if (a < e ∧ lx_so (tp a) = 3 ∧ e - a ≤ 9) then lx_va tp 48 10 a (e - a) else 0) = lx_va tp 48 10 a j by rw [if_pos hg, show e - a = j by omega]] at e9 ⊢
      exact e9
    · exact absurd (show nI e ≤ nI (a + j) from nI_le (by omega) (by omega)) c_61
  | succ c ih =>
    intro j hjc
    refine v_iload dX13_number_55 0 rfl ?_
    refine v_aload_n dX13_number_57 rfl 3 rfl ?_
    refine v_getf 68 (ci := 11) (C := RX13) (T := TX13) (N := 71) rfl iwX13_number_X13 (Nat.le_of_ble_eq_true rfl) (by decide +kernel) dX13_number_58 (by first | with_reducible assumption) (by repeat (first | with_reducible assumption | (with_reducible refine (sv_ls (by first | omega | (simp only [List.length_set]; omega))).trans ?_; exact rfl) | with_reducible refine (List.getElem?_set_ne (by decide)).trans ?_)) ?_
    refine v_icmp_ge (tgt := 95) dX13_number_61 (by decide) (fun c_61 => ?_) (fun c_61 => ?_)
    · exact absurd c_61 (nI_ge (by omega) (by omega))
    · refine v_iload_n dX13_number_64 rfl 2 rfl ?_
      refine v_if_eq (tgt := 95) dX13_number_65 (by decide) (fun c_65 => ?_) (fun c_65 => ?_)
      · exact absurd c_65 (by decide)
      · refine v_ldc2 (v := (10)) (by decide +kernel) dX13_number_68 ?_
        refine v_lload dX13_number_71 1 rfl ?_
        refine v_lmul dX13_number_73 ?_
        refine v_aload_n dX13_number_74 rfl 3 rfl ?_
        refine v_getf 16 (ci := 11) (C := RX13) (T := TX13) (N := 71) rfl iwX13_number_X13 (Nat.le_of_ble_eq_true rfl) (by decide +kernel) dX13_number_75 (by first | with_reducible assumption) (by repeat (first | with_reducible assumption | (with_reducible refine (sv_ls (by first | omega | (simp only [List.length_set]; omega))).trans ?_; exact rfl) | with_reducible refine (List.getElem?_set_ne (by decide)).trans ?_)) ?_
        refine v_iload dX13_number_78 0 rfl ?_
        refine v_ialdS (v := tp (a + j)) dX13_number_80 (by first | with_reducible assumption) (vp_in_nI (by omega) (by omega)) (by rw [nI_clamp (by omega)]; exact htp _ (by omega)) ?_
        refine v_i2l dX13_number_81 rfl ?_
        refine v_ladd dX13_number_82 ?_
        refine v_ldc2 (v := (48)) (by decide +kernel) dX13_number_83 ?_
        refine v_lsub dX13_number_86 ?_
        refine v_lstore (L' := [(4, _), (6, _), (3, _), (0, _), (1, _)]) dX13_number_87 (Nat.le_of_ble_eq_true rfl) rfl ?_
        refine v_iinc (j := 1) (L' := [(6, _), (4, _), (3, _), (0, _), (1, _)]) (v := nI (a + (j + 1))) dX13_number_89 rfl (nI_1 _) (Nat.le_of_ble_eq_true rfl) rfl ?_
        refine v_goto (tgt := 55) dX13_number_92 (by decide) ?_
        refine v_sub (L' := [(6, _), (4, _), (3, _), (0, _), (1, _)]) [0, 1, 2, 3, 4] rfl ?_
        have e9 := ih (j + 1) (by omega)
        rw [show lx_va tp 48 10 a (j + 1) = lx_va tp 48 10 a j * 10 + (tp (a + j) - 48).toInt64 from rfl, lx_m1 48 48 (by decide) (by decide) (hok _ (by omega)), ← lx_m2] at e9
        exact e9

set_option maxHeartbeats 4000000 in
set_option maxRecDepth 100000 in
theorem l_number0 (G : sv_G) (h : sv_h) (z b n : Nat) (fs F : List Value) (f tp : Nat → Int32) (wd : Int32) (a e : Nat) (r : Int32) (ht2 : ab_I G h (b + 232) 600 f) (htp : ∀ i, i < n → f i = tp i) (hn : n ≤ 600) (hae : a ≤ e) (hen : e ≤ n) (hm : h (b + 220) = some (.inr (11, F))) (H : mr_st b n fs F wd a e r) (bl : Int64) (hr : r = 0 ∨ r = 1) (hng : ¬ (a < e ∧ lx_so (tp a) = 3 ∧ e - a ≤ 9)) : V G mX13_number (sv_MQ G mX13_number (fun v h1 z1 => v = some (.long (if (a < e ∧ lx_so (tp a) = 3 ∧ e - a ≤ 9) then lx_va tp 48 10 a (e - a) else 0)) ∧ z1 = z ∧ (∃ F1 : List Value, h1 (b + 220) = some (.inr (11, F1)) ∧ ((r = 1 ∧ (a < e ∧ lx_so (tp a) = 3 ∧ e - a ≤ 9) ∧ (if (a < e ∧ lx_so (tp a) = 3 ∧ e - a ≤ 9) then lx_va tp 48 10 a (e - a) else 0) < bl ∧ ∃ a1 e1, lx_T n tp e a1 e1 ∧ mr_st b n fs F1 (wd + 1) a1 e1 1) ∨ (¬ (r = 1 ∧ (a < e ∧ lx_so (tp a) = 3 ∧ e - a ≤ 9) ∧ (if (a < e ∧ lx_so (tp a) = 3 ∧ e - a ≤ 9) then lx_va tp 48 10 a (e - a) else 0) < bl) ∧ mr_st b n fs F1 wd a e 0))) ∧ ∀ w, w ≠ b + 220 → h1 w = h w)) 55 [(6, .int (nI a)), (4, .long 0), (3, .int 0), (0, .ref (b + 220)), (1, .long bl)] [] h z 0 0 := by
  obtain ⟨g0, g1, g2, g3, g4, g5, g6, g7⟩ := id H
  have hlen := g0
  have f_to := g3
  refine v_iload dX13_number_55 0 rfl ?_
  refine v_aload_n dX13_number_57 rfl 3 rfl ?_
  refine v_getf 68 (ci := 11) (C := RX13) (T := TX13) (N := 71) rfl iwX13_number_X13 (Nat.le_of_ble_eq_true rfl) (by decide +kernel) dX13_number_58 (by first | with_reducible assumption) (by repeat (first | with_reducible assumption | (with_reducible refine (sv_ls (by first | omega | (simp only [List.length_set]; omega))).trans ?_; exact rfl) | with_reducible refine (List.getElem?_set_ne (by decide)).trans ?_)) ?_
  refine v_icmp_ge (tgt := 95) dX13_number_61 (by decide) (fun c_61 => ?_) (fun c_61 => ?_)
  · have e9 := t_number G h z b n fs F f tp wd a e r ht2 htp hn hae hen hm H bl hr 0 (nI a) (Or.inr ⟨rfl, hng⟩)
    rw [if_neg hng] at e9
    rw [if_neg hng]
    exact e9
  · refine v_iload_n dX13_number_64 rfl 2 rfl ?_
    refine v_if_eq (tgt := 95) dX13_number_65 (by decide) (fun c_65 => ?_) (fun c_65 => ?_)
    · have e9 := t_number G h z b n fs F f tp wd a e r ht2 htp hn hae hen hm H bl hr 0 (nI a) (Or.inr ⟨rfl, hng⟩)
      rw [if_neg hng] at e9
      rw [if_neg hng]
      exact e9
    · exact absurd rfl c_65

set_option maxHeartbeats 4000000 in
set_option maxRecDepth 100000 in
theorem m_number (G : sv_G) (h : sv_h) (z b n : Nat) (fs F : List Value) (f tp : Nat → Int32) (wd : Int32) (a e : Nat) (r : Int32) (ht2 : ab_I G h (b + 232) 600 f) (htp : ∀ i, i < n → f i = tp i) (hn : n ≤ 600) (hae : a ≤ e) (hen : e ≤ n) (hm : h (b + 220) = some (.inr (11, F))) (H : mr_st b n fs F wd a e r) (bl : Int64) (hr : r = 0 ∨ r = 1) (hok : ∀ i, i < n → tp i = 10 ∨ (32 ≤ tp i ∧ tp i ≤ 126)) : CT G mX13_number [.ref (b + 220), .long bl] h z (fun v h1 z1 => v = some (.long (if (a < e ∧ lx_so (tp a) = 3 ∧ e - a ≤ 9) then lx_va tp 48 10 a (e - a) else 0)) ∧ z1 = z ∧ (∃ F1 : List Value, h1 (b + 220) = some (.inr (11, F1)) ∧ ((r = 1 ∧ (a < e ∧ lx_so (tp a) = 3 ∧ e - a ≤ 9) ∧ (if (a < e ∧ lx_so (tp a) = 3 ∧ e - a ≤ 9) then lx_va tp 48 10 a (e - a) else 0) < bl ∧ ∃ a1 e1, lx_T n tp e a1 e1 ∧ mr_st b n fs F1 (wd + 1) a1 e1 1) ∨ (¬ (r = 1 ∧ (a < e ∧ lx_so (tp a) = 3 ∧ e - a ≤ 9) ∧ (if (a < e ∧ lx_so (tp a) = 3 ∧ e - a ≤ 9) then lx_va tp 48 10 a (e - a) else 0) < bl) ∧ mr_st b n fs F1 wd a e 0))) ∧ ∀ w, w ≠ b + 220 → h1 w = h w) := by
  refine CT.of (by decide +kernel) rfl rfl (Nat.le_of_ble_eq_true rfl) ?_
  obtain ⟨g0, g1, g2, g3, g4, g5, g6, g7⟩ := id H
  have hlen := g0
  have f_from := g2
  have f_to := g3
  have f_tape := g6
  refine v_aload_n dX13_number_0 rfl 0 rfl ?_
  refine v_getf 67 (ci := 11) (C := RX13) (T := TX13) (N := 71) rfl iwX13_number_X13 (Nat.le_of_ble_eq_true rfl) (by decide +kernel) dX13_number_1 (by first | with_reducible assumption) (by repeat (first | with_reducible assumption | (with_reducible refine (sv_ls (by first | omega | (simp only [List.length_set]; omega))).trans ?_; exact rfl) | with_reducible refine (List.getElem?_set_ne (by decide)).trans ?_)) ?_
  refine v_aload_n dX13_number_4 rfl 0 rfl ?_
  refine v_getf 68 (ci := 11) (C := RX13) (T := TX13) (N := 71) rfl iwX13_number_X13 (Nat.le_of_ble_eq_true rfl) (by decide +kernel) dX13_number_5 (by first | with_reducible assumption) (by repeat (first | with_reducible assumption | (with_reducible refine (sv_ls (by first | omega | (simp only [List.length_set]; omega))).trans ?_; exact rfl) | with_reducible refine (List.getElem?_set_ne (by decide)).trans ?_)) ?_
  refine v_icmp_ge (tgt := 44) dX13_number_8 (by decide) (fun c_8 => ?_) (fun c_8 => ?_)
  · refine v_iconst (v := 0) dX13_number_44 (by decide) ?_
    refine v_istore_n (L' := [(3, _), (0, _), (1, _)]) dX13_number_45 rfl (Nat.le_of_ble_eq_true rfl) rfl ?_
    refine v_lconst (v := 0) dX13_number_46 (by decide) ?_
    refine v_lstore (L' := [(4, _), (3, _), (0, _), (1, _)]) dX13_number_47 (Nat.le_of_ble_eq_true rfl) rfl ?_
    refine v_aload_n dX13_number_49 rfl 2 rfl ?_
    refine v_getf 67 (ci := 11) (C := RX13) (T := TX13) (N := 71) rfl iwX13_number_X13 (Nat.le_of_ble_eq_true rfl) (by decide +kernel) dX13_number_50 (by first | with_reducible assumption) (by repeat (first | with_reducible assumption | (with_reducible refine (sv_ls (by first | omega | (simp only [List.length_set]; omega))).trans ?_; exact rfl) | with_reducible refine (List.getElem?_set_ne (by decide)).trans ?_)) ?_
    refine v_istore (L' := [(6, _), (4, _), (3, _), (0, _), (1, _)]) dX13_number_53 (Nat.le_of_ble_eq_true rfl) rfl ?_
    refine v_sub (L' := [(6, _), (4, _), (3, _), (0, _), (1, _)]) [0, 1, 2, 3, 4] rfl ?_
    first
    | (have c9 : nI e ≤ nI a := c_8
       have c8 := (nI_leI (by omega) (by omega)).mp c9
       exact l_number0 G h z b n fs F f tp wd a e r ht2 htp hn hae hen hm H bl hr (fun q => absurd q.1 (by omega)))
    | (have c9 : (9 : Int32) < nI e - nI a := c_37
       rw [(show nI e - nI a = nI (e - a) from pk_sub hae)] at c9
       have c8 := (nI_ltI (a := 9) (by omega) (by omega)).mp c9
       exact l_number0 G h z b n fs F f tp wd a e r ht2 htp hn hae hen hm H bl hr (fun q => absurd q.2.2 (by omega)))
    | (have c9 : ¬ (9 : Int32) < nI e - nI a := c_37
       rw [(show nI e - nI a = nI (e - a) from pk_sub hae)] at c9
       have c8 : e - a ≤ 9 := Nat.le_of_not_lt (fun q => c9 (nI_lt (a := 9) q (by omega)))
       exact l_number G h z b n fs F f tp wd a e r ht2 htp hn hae hen hm H bl hr hok ⟨(show a < e from (nI_ltI (by omega) (by omega)).mp (Int32.not_le.mp c_8)), sv_ifn c_23, c8⟩ (e - a) 0 (by omega))
    | (have c7 := sv_ift c_23
       exact l_number0 G h z b n fs F f tp wd a e r ht2 htp hn hae hen hm H bl hr (fun q => c7 q.2.1))
  · refine v_aload_n dX13_number_11 rfl 0 rfl ?_
    refine v_getf 16 (ci := 11) (C := RX13) (T := TX13) (N := 71) rfl iwX13_number_X13 (Nat.le_of_ble_eq_true rfl) (by decide +kernel) dX13_number_12 (by first | with_reducible assumption) (by repeat (first | with_reducible assumption | (with_reducible refine (sv_ls (by first | omega | (simp only [List.length_set]; omega))).trans ?_; exact rfl) | with_reducible refine (List.getElem?_set_ne (by decide)).trans ?_)) ?_
    refine v_aload_n dX13_number_15 rfl 0 rfl ?_
    refine v_getf 67 (ci := 11) (C := RX13) (T := TX13) (N := 71) rfl iwX13_number_X13 (Nat.le_of_ble_eq_true rfl) (by decide +kernel) dX13_number_16 (by first | with_reducible assumption) (by repeat (first | with_reducible assumption | (with_reducible refine (sv_ls (by first | omega | (simp only [List.length_set]; omega))).trans ?_; exact rfl) | with_reducible refine (List.getElem?_set_ne (by decide)).trans ?_)) ?_
    refine v_ialdS (v := tp a) dX13_number_19 (by first | with_reducible assumption) (vp_in_nI (by have := (show a < e from (nI_ltI (by omega) (by omega)).mp (Int32.not_le.mp c_8)); omega) (by omega)) (by rw [nI_clamp (by omega)]; exact htp _ (by have := (show a < e from (nI_ltI (by omega) (by omega)).mp (Int32.not_le.mp c_8)); omega)) ?_
    refine v_callSq (M' := mX13_isDigit) (n := 1) (As := [_]) ggX13_number_X13_isDigit (by decide +kernel) (by decide +kernel) (by decide +kernel) rfl (by decide +kernel) ⟨(Nat.le_of_ble_eq_true rfl), (Nat.le_of_ble_eq_true rfl)⟩ dX13_number_20 rfl ⟨(Nat.le_of_ble_eq_true rfl), (Nat.le_of_ble_eq_true rfl)⟩ (Nat.le_of_ble_eq_true rfl) rfl (m_isDigit G _ _ _) (fun v h1 z1 hq => v_pq hq ?_)
    refine v_if_eq (tgt := 44) dX13_number_23 (by decide) (fun c_23 => ?_) (fun c_23 => ?_)
    · refine v_iconst (v := 0) dX13_number_44 (by decide) ?_
      refine v_istore_n (L' := [(3, _), (0, _), (1, _)]) dX13_number_45 rfl (Nat.le_of_ble_eq_true rfl) rfl ?_
      refine v_lconst (v := 0) dX13_number_46 (by decide) ?_
      refine v_lstore (L' := [(4, _), (3, _), (0, _), (1, _)]) dX13_number_47 (Nat.le_of_ble_eq_true rfl) rfl ?_
      refine v_aload_n dX13_number_49 rfl 2 rfl ?_
      refine v_getf 67 (ci := 11) (C := RX13) (T := TX13) (N := 71) rfl iwX13_number_X13 (Nat.le_of_ble_eq_true rfl) (by decide +kernel) dX13_number_50 (by first | with_reducible assumption) (by repeat (first | with_reducible assumption | (with_reducible refine (sv_ls (by first | omega | (simp only [List.length_set]; omega))).trans ?_; exact rfl) | with_reducible refine (List.getElem?_set_ne (by decide)).trans ?_)) ?_
      refine v_istore (L' := [(6, _), (4, _), (3, _), (0, _), (1, _)]) dX13_number_53 (Nat.le_of_ble_eq_true rfl) rfl ?_
      refine v_sub (L' := [(6, _), (4, _), (3, _), (0, _), (1, _)]) [0, 1, 2, 3, 4] rfl ?_
      first
      | (have c9 : nI e ≤ nI a := c_8
         have c8 := (nI_leI (by omega) (by omega)).mp c9
         exact l_number0 G h z b n fs F f tp wd a e r ht2 htp hn hae hen hm H bl hr (fun q => absurd q.1 (by omega)))
      | (have c9 : (9 : Int32) < nI e - nI a := c_37
         rw [(show nI e - nI a = nI (e - a) from pk_sub hae)] at c9
         have c8 := (nI_ltI (a := 9) (by omega) (by omega)).mp c9
         exact l_number0 G h z b n fs F f tp wd a e r ht2 htp hn hae hen hm H bl hr (fun q => absurd q.2.2 (by omega)))
      | (have c9 : ¬ (9 : Int32) < nI e - nI a := c_37
         rw [(show nI e - nI a = nI (e - a) from pk_sub hae)] at c9
         have c8 : e - a ≤ 9 := Nat.le_of_not_lt (fun q => c9 (nI_lt (a := 9) q (by omega)))
         exact l_number G h z b n fs F f tp wd a e r ht2 htp hn hae hen hm H bl hr hok ⟨(show a < e from (nI_ltI (by omega) (by omega)).mp (Int32.not_le.mp c_8)), sv_ifn c_23, c8⟩ (e - a) 0 (by omega))
      | (have c7 := sv_ift c_23
         exact l_number0 G h z b n fs F f tp wd a e r ht2 htp hn hae hen hm H bl hr (fun q => c7 q.2.1))
    · refine v_aload_n dX13_number_26 rfl 0 rfl ?_
      refine v_getf 68 (ci := 11) (C := RX13) (T := TX13) (N := 71) rfl iwX13_number_X13 (Nat.le_of_ble_eq_true rfl) (by decide +kernel) dX13_number_27 (by first | with_reducible assumption) (by repeat (first | with_reducible assumption | (with_reducible refine (sv_ls (by first | omega | (simp only [List.length_set]; omega))).trans ?_; exact rfl) | with_reducible refine (List.getElem?_set_ne (by decide)).trans ?_)) ?_
      refine v_aload_n dX13_number_30 rfl 0 rfl ?_
      refine v_getf 67 (ci := 11) (C := RX13) (T := TX13) (N := 71) rfl iwX13_number_X13 (Nat.le_of_ble_eq_true rfl) (by decide +kernel) dX13_number_31 (by first | with_reducible assumption) (by repeat (first | with_reducible assumption | (with_reducible refine (sv_ls (by first | omega | (simp only [List.length_set]; omega))).trans ?_; exact rfl) | with_reducible refine (List.getElem?_set_ne (by decide)).trans ?_)) ?_
      refine v_isub dX13_number_34 ?_
      refine v_bipush (v := 9) dX13_number_35 (by decide) ?_
      refine v_icmp_gt (tgt := 44) dX13_number_37 (by decide) (fun c_37 => ?_) (fun c_37 => ?_)
      · refine v_iconst (v := 0) dX13_number_44 (by decide) ?_
        refine v_istore_n (L' := [(3, _), (0, _), (1, _)]) dX13_number_45 rfl (Nat.le_of_ble_eq_true rfl) rfl ?_
        refine v_lconst (v := 0) dX13_number_46 (by decide) ?_
        refine v_lstore (L' := [(4, _), (3, _), (0, _), (1, _)]) dX13_number_47 (Nat.le_of_ble_eq_true rfl) rfl ?_
        refine v_aload_n dX13_number_49 rfl 2 rfl ?_
        refine v_getf 67 (ci := 11) (C := RX13) (T := TX13) (N := 71) rfl iwX13_number_X13 (Nat.le_of_ble_eq_true rfl) (by decide +kernel) dX13_number_50 (by first | with_reducible assumption) (by repeat (first | with_reducible assumption | (with_reducible refine (sv_ls (by first | omega | (simp only [List.length_set]; omega))).trans ?_; exact rfl) | with_reducible refine (List.getElem?_set_ne (by decide)).trans ?_)) ?_
        refine v_istore (L' := [(6, _), (4, _), (3, _), (0, _), (1, _)]) dX13_number_53 (Nat.le_of_ble_eq_true rfl) rfl ?_
        refine v_sub (L' := [(6, _), (4, _), (3, _), (0, _), (1, _)]) [0, 1, 2, 3, 4] rfl ?_
        first
        | (have c9 : nI e ≤ nI a := c_8
           have c8 := (nI_leI (by omega) (by omega)).mp c9
           exact l_number0 G h z b n fs F f tp wd a e r ht2 htp hn hae hen hm H bl hr (fun q => absurd q.1 (by omega)))
        | (have c9 : (9 : Int32) < nI e - nI a := c_37
           rw [(show nI e - nI a = nI (e - a) from pk_sub hae)] at c9
           have c8 := (nI_ltI (a := 9) (by omega) (by omega)).mp c9
           exact l_number0 G h z b n fs F f tp wd a e r ht2 htp hn hae hen hm H bl hr (fun q => absurd q.2.2 (by omega)))
        | (have c9 : ¬ (9 : Int32) < nI e - nI a := c_37
           rw [(show nI e - nI a = nI (e - a) from pk_sub hae)] at c9
           have c8 : e - a ≤ 9 := Nat.le_of_not_lt (fun q => c9 (nI_lt (a := 9) q (by omega)))
           exact l_number G h z b n fs F f tp wd a e r ht2 htp hn hae hen hm H bl hr hok ⟨(show a < e from (nI_ltI (by omega) (by omega)).mp (Int32.not_le.mp c_8)), sv_ifn c_23, c8⟩ (e - a) 0 (by omega))
        | (have c7 := sv_ift c_23
           exact l_number0 G h z b n fs F f tp wd a e r ht2 htp hn hae hen hm H bl hr (fun q => c7 q.2.1))
      · refine v_iconst (v := 1) dX13_number_40 (by decide) ?_
        refine v_goto (tgt := 45) dX13_number_41 (by decide) ?_
        refine v_istore_n (L' := [(3, _), (0, _), (1, _)]) dX13_number_45 rfl (Nat.le_of_ble_eq_true rfl) rfl ?_
        refine v_lconst (v := 0) dX13_number_46 (by decide) ?_
        refine v_lstore (L' := [(4, _), (3, _), (0, _), (1, _)]) dX13_number_47 (Nat.le_of_ble_eq_true rfl) rfl ?_
        refine v_aload_n dX13_number_49 rfl 2 rfl ?_
        refine v_getf 67 (ci := 11) (C := RX13) (T := TX13) (N := 71) rfl iwX13_number_X13 (Nat.le_of_ble_eq_true rfl) (by decide +kernel) dX13_number_50 (by first | with_reducible assumption) (by repeat (first | with_reducible assumption | (with_reducible refine (sv_ls (by first | omega | (simp only [List.length_set]; omega))).trans ?_; exact rfl) | with_reducible refine (List.getElem?_set_ne (by decide)).trans ?_)) ?_
        refine v_istore (L' := [(6, _), (4, _), (3, _), (0, _), (1, _)]) dX13_number_53 (Nat.le_of_ble_eq_true rfl) rfl ?_
        refine v_sub (L' := [(6, _), (4, _), (3, _), (0, _), (1, _)]) [0, 1, 2, 3, 4] rfl ?_
        first
        | (have c9 : nI e ≤ nI a := c_8
           have c8 := (nI_leI (by omega) (by omega)).mp c9
           exact l_number0 G h z b n fs F f tp wd a e r ht2 htp hn hae hen hm H bl hr (fun q => absurd q.1 (by omega)))
        | (have c9 : (9 : Int32) < nI e - nI a := c_37
           rw [(show nI e - nI a = nI (e - a) from pk_sub hae)] at c9
           have c8 := (nI_ltI (a := 9) (by omega) (by omega)).mp c9
           exact l_number0 G h z b n fs F f tp wd a e r ht2 htp hn hae hen hm H bl hr (fun q => absurd q.2.2 (by omega)))
        | (have c9 : ¬ (9 : Int32) < nI e - nI a := c_37
           rw [(show nI e - nI a = nI (e - a) from pk_sub hae)] at c9
           have c8 : e - a ≤ 9 := Nat.le_of_not_lt (fun q => c9 (nI_lt (a := 9) q (by omega)))
           exact l_number G h z b n fs F f tp wd a e r ht2 htp hn hae hen hm H bl hr hok ⟨(show a < e from (nI_ltI (by omega) (by omega)).mp (Int32.not_le.mp c_8)), sv_ifn c_23, c8⟩ (e - a) 0 (by omega))
        | (have c7 := sv_ift c_23
           exact l_number0 G h z b n fs F f tp wd a e r ht2 htp hn hae hen hm H bl hr (fun q => c7 q.2.1))

