/-- the model as it reads: word wd from a to e; r: right so far; else as fs -/
def mr_st (b n : Nat) (fs F : List Value) (wd : Int32) (a e : Nat) (r : Int32) : Prop := F.length = 71 ∧ F[69]? = some (.int wd) ∧ F[67]? = some (.int (nI a)) ∧ F[68]? = some (.int (nI e)) ∧ F[70]? = some (.int r) ∧ F[17]? = some (.int (nI n)) ∧ F[16]? = some (.ref (b + 232)) ∧ ∀ i, i ≠ 69 → i ≠ 67 → i ≠ 68 → i ≠ 70 → F[i]? = fs[i]?
theorem mr_st.set {b n : Nat} {fs F : List Value} {wd : Int32} {a e : Nat} {r : Int32} (H : mr_st b n fs F wd a e r) (x : Int32) : mr_st b n fs (F.set 70 (.int x)) wd a e x := by
  obtain ⟨g0, g1, g2, g3, g4, g5, g6, g7⟩ := H
  exact ⟨by rw [List.length_set]; exact g0, (List.getElem?_set_ne (by decide)).trans g1, (List.getElem?_set_ne (by decide)).trans g2, (List.getElem?_set_ne (by decide)).trans g3, sv_ls (by omega), (List.getElem?_set_ne (by decide)).trans g5, (List.getElem?_set_ne (by decide)).trans g6, fun i q1 q2 q3 q4 => (List.getElem?_set_ne (fun q => q4 q.symm)).trans (g7 i q1 q2 q3 q4)⟩
theorem m_nextS (G : sv_G) (h : sv_h) (z b n : Nat) (fs F : List Value) (f tp : Nat → Int32) (wd : Int32) (a e : Nat) (r : Int32) (ht2 : ab_I G h (b + 232) 600 f) (htp : ∀ i, i < n → f i = tp i) (hn : n ≤ 600) (hae : a ≤ e) (hen : e ≤ n) (hm : h (b + 220) = some (.inr (11, F))) (H : mr_st b n fs F wd a e r) : CT G mX13_next [.ref (b + 220)] h z (fun v h1 z1 => v = none ∧ z1 = z ∧ (∃ (a1 e1 : Nat) (F1 : List Value), lx_T n tp e a1 e1 ∧ h1 (b + 220) = some (.inr (11, F1)) ∧ mr_st b n fs F1 (wd + 1) a1 e1 r) ∧ ∀ w, w ≠ b + 220 → h1 w = h w) := by
  obtain ⟨g0, g1, g2, g3, g4, g5, g6, g7⟩ := H
  refine (m_next G h z b n F f tp wd ht2 htp hn e hen (nI a) g0 hm g1 g2 g3 g5 g6).mono (fun v h1 z1 _ hq => ?_)
  obtain ⟨q1, q2, ⟨a1, e1, F1, q3, q4, k0, k1, k2, k3, k4, k5, k6⟩, q5⟩ := hq
  exact ⟨q1, q2, ⟨a1, e1, F1, q3, q4, k0, k1, k2, k3, (k6 _ (by decide) (by decide) (by decide)).trans g4, k4, k5, fun i r1 r2 r3 r4 => (k6 i r1 r2 r3).trans (g7 i r1 r2 r3 r4)⟩, q5⟩
set_option maxHeartbeats 4000000 in
set_option maxRecDepth 100000 in
theorem m_take (G : sv_G) (h : sv_h) (z b n : Nat) (fs F : List Value) (f tp : Nat → Int32) (wd : Int32) (a e : Nat) (r : Int32) (ht2 : ab_I G h (b + 232) 600 f) (htp : ∀ i, i < n → f i = tp i) (hn : n ≤ 600) (hae : a ≤ e) (hen : e ≤ n) (hm : h (b + 220) = some (.inr (11, F))) (H : mr_st b n fs F wd a e r) (hv : Int32) (hr : r = 0 ∨ r = 1) (hh : hv = 0 ∨ hv = 1) : CT G mX13_take_ [.ref (b + 220), .int hv] h z (fun v h1 z1 => v = none ∧ z1 = z ∧ (∃ F1 : List Value, h1 (b + 220) = some (.inr (11, F1)) ∧ ((r = 1 ∧ hv = 1 ∧ ∃ a1 e1, lx_T n tp e a1 e1 ∧ mr_st b n fs F1 (wd + 1) a1 e1 1) ∨ (¬ (r = 1 ∧ hv = 1) ∧ mr_st b n fs F1 wd a e 0))) ∧ ∀ w, w ≠ b + 220 → h1 w = h w) := by
  refine CT.of (by decide +kernel) rfl rfl (Nat.le_of_ble_eq_true rfl) ?_
  have hlen := H.1
  have f_right := H.2.2.2.2.1
  refine v_aload_n dX13_take__0 rfl 0 rfl ?_
  refine v_aload_n dX13_take__1 rfl 0 rfl ?_
  refine v_getf 70 (ci := 11) (C := RX13) (T := TX13) (N := 71) rfl iwX13_take__X13 (Nat.le_of_ble_eq_true rfl) (by decide +kernel) dX13_take__2 (by repeat (first | with_reducible assumption | (with_reducible refine sv_us.trans ?_; exact rfl))) (by repeat (first | with_reducible assumption | (with_reducible refine (sv_ls (by first | omega | (simp only [List.length_set]; omega))).trans ?_; exact rfl) | with_reducible refine (List.getElem?_set_ne (by decide)).trans ?_)) ?_
  refine v_if_eq (tgt := 16) dX13_take__5 (by decide) (fun c_5 => ?_) (fun c_5 => ?_)
  · refine v_iconst (v := 0) dX13_take__16 (by decide) ?_
    refine v_putf 70 (fs' := _) (ci := 11) (C := RX13) (T := TX13) (N := 71) (ty := .boolean) rfl iwX13_take__X13 tyX13 tyX13_ok nmX13 (Nat.le_of_ble_eq_true rfl) (by decide +kernel) rfl rfl dX13_take__17 rfl rfl (by repeat (first | with_reducible assumption | (with_reducible refine sv_us.trans ?_; exact rfl))) (by first | omega | (simp only [List.length_set]; omega)) rfl ?_
    refine v_aload_n dX13_take__20 rfl 0 rfl ?_
    refine v_getf 70 (ci := 11) (C := RX13) (T := TX13) (N := 71) rfl iwX13_take__X13 (Nat.le_of_ble_eq_true rfl) (by decide +kernel) dX13_take__21 (by repeat (first | with_reducible assumption | (with_reducible refine sv_us.trans ?_; exact rfl))) (by repeat (first | with_reducible assumption | (with_reducible refine (sv_ls (by first | omega | (simp only [List.length_set]; omega))).trans ?_; exact rfl) | with_reducible refine (List.getElem?_set_ne (by decide)).trans ?_)) ?_
    refine v_if_eq (tgt := 31) dX13_take__24 (by decide) (fun c_24 => ?_) (fun c_24 => ?_)
    · exact v_ret rfl dX13_take__31 (Nat.le_of_ble_eq_true rfl) (Nat.le_of_ble_eq_true rfl) (by first | exact absurd c_24 (by decide) | exact absurd rfl c_24 | exact ⟨rfl, rfl, ⟨F1, k2, Or.inl ⟨hr.resolve_left c_5, hh.resolve_left c_9, a1, e1, k1, k3⟩⟩, fun w q => (k4 w q).trans (sv_un q)⟩ | (have c9 : r = 0 := c_5; exact ⟨rfl, rfl, ⟨_, sv_us, Or.inr ⟨fun q => absurd (c9.symm.trans q.1) (by decide), H.set 0⟩⟩, fun w q => sv_un q⟩) | (have c9 : hv = 0 := c_9; exact ⟨rfl, rfl, ⟨_, sv_us, Or.inr ⟨fun q => absurd (c9.symm.trans q.2) (by decide), H.set 0⟩⟩, fun w q => sv_un q⟩))
    · refine v_aload_n dX13_take__27 rfl 0 rfl ?_
      refine v_callVq (M' := mX13_next) (n := 0) (As := []) (ci := 11) (r := (RX13, TX13, 71)) gX13_take__X13_next rfl (by decide +kernel) ⟨(Nat.le_of_ble_eq_true rfl), (Nat.le_of_ble_eq_true rfl)⟩ rfl rfl dX13_take__28 rfl ⟨(Nat.le_of_ble_eq_true rfl), (Nat.le_of_ble_eq_true rfl)⟩ (Nat.le_of_ble_eq_true rfl) (by repeat (first | with_reducible assumption | (with_reducible refine sv_us.trans ?_; exact rfl))) rfl (m_nextS G _ _ b n fs _ f tp wd a e _ ((sv_un (by omega)).trans ht2) htp hn hae hen sv_us (H.set _)) (fun v h1 z1 hq => ?_)
      obtain ⟨rfl, rfl, ⟨a1, e1, F1, k1, k2, k3⟩, k4⟩ := hq
      exact v_ret rfl dX13_take__31 (Nat.le_of_ble_eq_true rfl) (Nat.le_of_ble_eq_true rfl) (by first | exact absurd c_24 (by decide) | exact absurd rfl c_24 | exact ⟨rfl, rfl, ⟨F1, k2, Or.inl ⟨hr.resolve_left c_5, hh.resolve_left c_9, a1, e1, k1, k3⟩⟩, fun w q => (k4 w q).trans (sv_un q)⟩ | (have c9 : r = 0 := c_5; exact ⟨rfl, rfl, ⟨_, sv_us, Or.inr ⟨fun q => absurd (c9.symm.trans q.1) (by decide), H.set 0⟩⟩, fun w q => sv_un q⟩) | (have c9 : hv = 0 := c_9; exact ⟨rfl, rfl, ⟨_, sv_us, Or.inr ⟨fun q => absurd (c9.symm.trans q.2) (by decide), H.set 0⟩⟩, fun w q => sv_un q⟩))
  · refine v_iload_n dX13_take__8 rfl 1 rfl ?_
    refine v_if_eq (tgt := 16) dX13_take__9 (by decide) (fun c_9 => ?_) (fun c_9 => ?_)
    · refine v_iconst (v := 0) dX13_take__16 (by decide) ?_
      refine v_putf 70 (fs' := _) (ci := 11) (C := RX13) (T := TX13) (N := 71) (ty := .boolean) rfl iwX13_take__X13 tyX13 tyX13_ok nmX13 (Nat.le_of_ble_eq_true rfl) (by decide +kernel) rfl rfl dX13_take__17 rfl rfl (by repeat (first | with_reducible assumption | (with_reducible refine sv_us.trans ?_; exact rfl))) (by first | omega | (simp only [List.length_set]; omega)) rfl ?_
      refine v_aload_n dX13_take__20 rfl 0 rfl ?_
      refine v_getf 70 (ci := 11) (C := RX13) (T := TX13) (N := 71) rfl iwX13_take__X13 (Nat.le_of_ble_eq_true rfl) (by decide +kernel) dX13_take__21 (by repeat (first | with_reducible assumption | (with_reducible refine sv_us.trans ?_; exact rfl))) (by repeat (first | with_reducible assumption | (with_reducible refine (sv_ls (by first | omega | (simp only [List.length_set]; omega))).trans ?_; exact rfl) | with_reducible refine (List.getElem?_set_ne (by decide)).trans ?_)) ?_
      refine v_if_eq (tgt := 31) dX13_take__24 (by decide) (fun c_24 => ?_) (fun c_24 => ?_)
      · exact v_ret rfl dX13_take__31 (Nat.le_of_ble_eq_true rfl) (Nat.le_of_ble_eq_true rfl) (by first | exact absurd c_24 (by decide) | exact absurd rfl c_24 | exact ⟨rfl, rfl, ⟨F1, k2, Or.inl ⟨hr.resolve_left c_5, hh.resolve_left c_9, a1, e1, k1, k3⟩⟩, fun w q => (k4 w q).trans (sv_un q)⟩ | (have c9 : r = 0 := c_5; exact ⟨rfl, rfl, ⟨_, sv_us, Or.inr ⟨fun q => absurd (c9.symm.trans q.1) (by decide), H.set 0⟩⟩, fun w q => sv_un q⟩) | (have c9 : hv = 0 := c_9; exact ⟨rfl, rfl, ⟨_, sv_us, Or.inr ⟨fun q => absurd (c9.symm.trans q.2) (by decide), H.set 0⟩⟩, fun w q => sv_un q⟩))
      · refine v_aload_n dX13_take__27 rfl 0 rfl ?_
        refine v_callVq (M' := mX13_next) (n := 0) (As := []) (ci := 11) (r := (RX13, TX13, 71)) gX13_take__X13_next rfl (by decide +kernel) ⟨(Nat.le_of_ble_eq_true rfl), (Nat.le_of_ble_eq_true rfl)⟩ rfl rfl dX13_take__28 rfl ⟨(Nat.le_of_ble_eq_true rfl), (Nat.le_of_ble_eq_true rfl)⟩ (Nat.le_of_ble_eq_true rfl) (by repeat (first | with_reducible assumption | (with_reducible refine sv_us.trans ?_; exact rfl))) rfl (m_nextS G _ _ b n fs _ f tp wd a e _ ((sv_un (by omega)).trans ht2) htp hn hae hen sv_us (H.set _)) (fun v h1 z1 hq => ?_)
        obtain ⟨rfl, rfl, ⟨a1, e1, F1, k1, k2, k3⟩, k4⟩ := hq
        exact v_ret rfl dX13_take__31 (Nat.le_of_ble_eq_true rfl) (Nat.le_of_ble_eq_true rfl) (by first | exact absurd c_24 (by decide) | exact absurd rfl c_24 | exact ⟨rfl, rfl, ⟨F1, k2, Or.inl ⟨hr.resolve_left c_5, hh.resolve_left c_9, a1, e1, k1, k3⟩⟩, fun w q => (k4 w q).trans (sv_un q)⟩ | (have c9 : r = 0 := c_5; exact ⟨rfl, rfl, ⟨_, sv_us, Or.inr ⟨fun q => absurd (c9.symm.trans q.1) (by decide), H.set 0⟩⟩, fun w q => sv_un q⟩) | (have c9 : hv = 0 := c_9; exact ⟨rfl, rfl, ⟨_, sv_us, Or.inr ⟨fun q => absurd (c9.symm.trans q.2) (by decide), H.set 0⟩⟩, fun w q => sv_un q⟩))
    · refine v_iconst (v := 1) dX13_take__12 (by decide) ?_
      refine v_goto (tgt := 17) dX13_take__13 (by decide) ?_
      refine v_putf 70 (fs' := _) (ci := 11) (C := RX13) (T := TX13) (N := 71) (ty := .boolean) rfl iwX13_take__X13 tyX13 tyX13_ok nmX13 (Nat.le_of_ble_eq_true rfl) (by decide +kernel) rfl rfl dX13_take__17 rfl rfl (by repeat (first | with_reducible assumption | (with_reducible refine sv_us.trans ?_; exact rfl))) (by first | omega | (simp only [List.length_set]; omega)) rfl ?_
      refine v_aload_n dX13_take__20 rfl 0 rfl ?_
      refine v_getf 70 (ci := 11) (C := RX13) (T := TX13) (N := 71) rfl iwX13_take__X13 (Nat.le_of_ble_eq_true rfl) (by decide +kernel) dX13_take__21 (by repeat (first | with_reducible assumption | (with_reducible refine sv_us.trans ?_; exact rfl))) (by repeat (first | with_reducible assumption | (with_reducible refine (sv_ls (by first | omega | (simp only [List.length_set]; omega))).trans ?_; exact rfl) | with_reducible refine (List.getElem?_set_ne (by decide)).trans ?_)) ?_
      refine v_if_eq (tgt := 31) dX13_take__24 (by decide) (fun c_24 => ?_) (fun c_24 => ?_)
      · exact v_ret rfl dX13_take__31 (Nat.le_of_ble_eq_true rfl) (Nat.le_of_ble_eq_true rfl) (by first | exact absurd c_24 (by decide) | exact absurd rfl c_24 | exact ⟨rfl, rfl, ⟨F1, k2, Or.inl ⟨hr.resolve_left c_5, hh.resolve_left c_9, a1, e1, k1, k3⟩⟩, fun w q => (k4 w q).trans (sv_un q)⟩ | (have c9 : r = 0 := c_5; exact ⟨rfl, rfl, ⟨_, sv_us, Or.inr ⟨fun q => absurd (c9.symm.trans q.1) (by decide), H.set 0⟩⟩, fun w q => sv_un q⟩) | (have c9 : hv = 0 := c_9; exact ⟨rfl, rfl, ⟨_, sv_us, Or.inr ⟨fun q => absurd (c9.symm.trans q.2) (by decide), H.set 0⟩⟩, fun w q => sv_un q⟩))
      · refine v_aload_n dX13_take__27 rfl 0 rfl ?_
        refine v_callVq (M' := mX13_next) (n := 0) (As := []) (ci := 11) (r := (RX13, TX13, 71)) gX13_take__X13_next rfl (by decide +kernel) ⟨(Nat.le_of_ble_eq_true rfl), (Nat.le_of_ble_eq_true rfl)⟩ rfl rfl dX13_take__28 rfl ⟨(Nat.le_of_ble_eq_true rfl), (Nat.le_of_ble_eq_true rfl)⟩ (Nat.le_of_ble_eq_true rfl) (by repeat (first | with_reducible assumption | (with_reducible refine sv_us.trans ?_; exact rfl))) rfl (m_nextS G _ _ b n fs _ f tp wd a e _ ((sv_un (by omega)).trans ht2) htp hn hae hen sv_us (H.set _)) (fun v h1 z1 hq => ?_)
        obtain ⟨rfl, rfl, ⟨a1, e1, F1, k1, k2, k3⟩, k4⟩ := hq
        exact v_ret rfl dX13_take__31 (Nat.le_of_ble_eq_true rfl) (Nat.le_of_ble_eq_true rfl) (by first | exact absurd c_24 (by decide) | exact absurd rfl c_24 | exact ⟨rfl, rfl, ⟨F1, k2, Or.inl ⟨hr.resolve_left c_5, hh.resolve_left c_9, a1, e1, k1, k3⟩⟩, fun w q => (k4 w q).trans (sv_un q)⟩ | (have c9 : r = 0 := c_5; exact ⟨rfl, rfl, ⟨_, sv_us, Or.inr ⟨fun q => absurd (c9.symm.trans q.1) (by decide), H.set 0⟩⟩, fun w q => sv_un q⟩) | (have c9 : hv = 0 := c_9; exact ⟨rfl, rfl, ⟨_, sv_us, Or.inr ⟨fun q => absurd (c9.symm.trans q.2) (by decide), H.set 0⟩⟩, fun w q => sv_un q⟩))

set_option maxHeartbeats 4000000 in
set_option maxRecDepth 100000 in
theorem l_isNew (G : sv_G) (h : sv_h) (z b nr : Nat) (F : List Value) (w : Int64) (nm : Nat → Int64) (hlen : F.length = 71) (hm : h (b + 220) = some (.inr (11, F))) (f_names : F[26]? = some (.ref (b + 240))) (hnm : ab_J G h (b + 240) 20 nm) (hnr : nr ≤ 20) : ∀ (c k : Nat) (y : Int32), k + c = nr → ((y = 1 ∧ 0 < w ∧ nr < 20 ∧ ∀ j, j < k → ¬ nm j = w) ∨ (y = 0 ∧ ¬ (0 < w ∧ nr < 20 ∧ ∀ k, k < nr → ¬ nm k = w))) → V G mX13_isNew (sv_MQ G mX13_isNew (fun v h1 z1 => (∃ w0 : Int32, v = some (.int w0) ∧ ((w0 = 1 ∧ (0 < w ∧ nr < 20 ∧ ∀ k, k < nr → ¬ nm k = w)) ∨ (w0 = 0 ∧ ¬ (0 < w ∧ nr < 20 ∧ ∀ k, k < nr → ¬ nm k = w)))) ∧ h1 = h ∧ z1 = z)) 22 [(5, .int (nI k)), (4, .int y), (0, .ref (b + 220)), (1, .long w), (3, .int (nI nr))] [] h z 0 0 := by
  intro c
  induction c with
  | zero =>
    intro k y hkc hy
    refine v_iload dX13_isNew_22 0 rfl ?_
    refine v_iload_n dX13_isNew_24 rfl 4 rfl ?_
    refine v_icmp_ge (tgt := 58) dX13_isNew_25 (by decide) (fun c_25 => ?_) (fun c_25 => ?_)
    · refine v_iload dX13_isNew_58 1 rfl ?_
      exact v_iret rfl dX13_isNew_60 (Nat.le_of_ble_eq_true rfl) (Nat.le_of_ble_eq_true rfl) (by rcases hy with ⟨e9, _⟩ | ⟨e9, _⟩ <;> (rw [e9]; rfl)) ⟨⟨y, rfl, hy.imp (fun q => ⟨q.1, q.2.1, q.2.2.1, fun j hj => q.2.2.2 j (by omega)⟩) (fun q => q)⟩, rfl, rfl⟩
    · exact absurd (show nI nr ≤ nI k from nI_le (by omega) (by omega)) c_25
  | succ c ih =>
    intro k y hkc hy
    refine v_iload dX13_isNew_22 0 rfl ?_
    refine v_iload_n dX13_isNew_24 rfl 4 rfl ?_
    refine v_icmp_ge (tgt := 58) dX13_isNew_25 (by decide) (fun c_25 => ?_) (fun c_25 => ?_)
    · exact absurd c_25 (nI_ge (by omega) (by omega))
    · refine v_iload dX13_isNew_28 1 rfl ?_
      refine v_if_eq (tgt := 49) dX13_isNew_30 (by decide) (fun c_30 => ?_) (fun c_30 => ?_)
      · refine v_iconst (v := 0) dX13_isNew_49 (by decide) ?_
        refine v_istore (L' := [(4, _), (5, _), (0, _), (1, _), (3, _)]) dX13_isNew_50 (Nat.le_of_ble_eq_true rfl) rfl ?_
        refine v_iinc (j := 1) (L' := [(5, _), (4, _), (0, _), (1, _), (3, _)]) (v := nI (k + 1)) dX13_isNew_52 rfl (nI_1 _) (Nat.le_of_ble_eq_true rfl) rfl ?_
        refine v_goto (tgt := 22) dX13_isNew_55 (by decide) ?_
        refine v_sub (L' := [(5, _), (4, _), (0, _), (1, _), (3, _)]) [0, 1, 2, 3, 4] rfl ?_
        refine ih (k + 1) _ (by omega) ?_
        first
        | (have c9 : y = 0 := c_30
           exact Or.inr ⟨rfl, (hy.resolve_left (fun q => by rw [q.1] at c9; exact absurd c9 (by decide))).2⟩)
        | (have c9 : nm k = w := c_42
           exact Or.inr ⟨rfl, fun q => q.2.2 k (by omega) c9⟩)
        | (have c9 : ¬ nm k = w := c_42
           have hy1 := hy.resolve_right (fun q => c_30 q.1)
           refine Or.inl ⟨rfl, hy1.2.1, hy1.2.2.1, fun j hj => ?_⟩
           by_cases e : j = k
           · rw [e]; exact c9
           · exact hy1.2.2.2 j (by omega))
      · refine v_aload_n dX13_isNew_33 rfl 2 rfl ?_
        refine v_getf 26 (ci := 11) (C := RX13) (T := TX13) (N := 71) rfl iwX13_isNew_X13 (Nat.le_of_ble_eq_true rfl) (by decide +kernel) dX13_isNew_34 (by repeat (first | (with_reducible refine sv_us.trans ?_; exact rfl) | with_reducible assumption | with_reducible refine (sv_un (by omega)).trans ?_)) (by repeat (first | with_reducible assumption | (with_reducible refine (sv_ls (by first | omega | (simp only [List.length_set]; omega))).trans ?_; exact rfl) | with_reducible refine (List.getElem?_set_ne (by decide)).trans ?_)) ?_
        refine v_iload dX13_isNew_37 0 rfl ?_
        refine v_laldS (v := nm k) dX13_isNew_39 (by repeat (first | (with_reducible refine sv_us.trans ?_; exact rfl) | with_reducible assumption | with_reducible refine (sv_un (by omega)).trans ?_)) (vp_in_nI (by omega) (by omega)) (by rw [nI_clamp (by omega)]) ?_
        refine v_lload_n dX13_isNew_40 rfl 3 rfl ?_
        refine v_lcmp_eq (tgt := 49) dX13_isNew_41 dX13_isNew_42 (by decide) (fun c_42 => ?_) (fun c_42 => ?_)
        · refine v_iconst (v := 0) dX13_isNew_49 (by decide) ?_
          refine v_istore (L' := [(4, _), (5, _), (0, _), (1, _), (3, _)]) dX13_isNew_50 (Nat.le_of_ble_eq_true rfl) rfl ?_
          refine v_iinc (j := 1) (L' := [(5, _), (4, _), (0, _), (1, _), (3, _)]) (v := nI (k + 1)) dX13_isNew_52 rfl (nI_1 _) (Nat.le_of_ble_eq_true rfl) rfl ?_
          refine v_goto (tgt := 22) dX13_isNew_55 (by decide) ?_
          refine v_sub (L' := [(5, _), (4, _), (0, _), (1, _), (3, _)]) [0, 1, 2, 3, 4] rfl ?_
          refine ih (k + 1) _ (by omega) ?_
          first
          | (have c9 : y = 0 := c_30
             exact Or.inr ⟨rfl, (hy.resolve_left (fun q => by rw [q.1] at c9; exact absurd c9 (by decide))).2⟩)
          | (have c9 : nm k = w := c_42
             exact Or.inr ⟨rfl, fun q => q.2.2 k (by omega) c9⟩)
          | (have c9 : ¬ nm k = w := c_42
             have hy1 := hy.resolve_right (fun q => c_30 q.1)
             refine Or.inl ⟨rfl, hy1.2.1, hy1.2.2.1, fun j hj => ?_⟩
             by_cases e : j = k
             · rw [e]; exact c9
             · exact hy1.2.2.2 j (by omega))
        · refine v_iconst (v := 1) dX13_isNew_45 (by decide) ?_
          refine v_goto (tgt := 50) dX13_isNew_46 (by decide) ?_
          refine v_istore (L' := [(4, _), (5, _), (0, _), (1, _), (3, _)]) dX13_isNew_50 (Nat.le_of_ble_eq_true rfl) rfl ?_
          refine v_iinc (j := 1) (L' := [(5, _), (4, _), (0, _), (1, _), (3, _)]) (v := nI (k + 1)) dX13_isNew_52 rfl (nI_1 _) (Nat.le_of_ble_eq_true rfl) rfl ?_
          refine v_goto (tgt := 22) dX13_isNew_55 (by decide) ?_
          refine v_sub (L' := [(5, _), (4, _), (0, _), (1, _), (3, _)]) [0, 1, 2, 3, 4] rfl ?_
          refine ih (k + 1) _ (by omega) ?_
          first
          | (have c9 : y = 0 := c_30
             exact Or.inr ⟨rfl, (hy.resolve_left (fun q => by rw [q.1] at c9; exact absurd c9 (by decide))).2⟩)
          | (have c9 : nm k = w := c_42
             exact Or.inr ⟨rfl, fun q => q.2.2 k (by omega) c9⟩)
          | (have c9 : ¬ nm k = w := c_42
             have hy1 := hy.resolve_right (fun q => c_30 q.1)
             refine Or.inl ⟨rfl, hy1.2.1, hy1.2.2.1, fun j hj => ?_⟩
             by_cases e : j = k
             · rw [e]; exact c9
             · exact hy1.2.2.2 j (by omega))

set_option maxHeartbeats 4000000 in
set_option maxRecDepth 100000 in
theorem m_isNew (G : sv_G) (h : sv_h) (z b nr : Nat) (F : List Value) (w : Int64) (nm : Nat → Int64) (hlen : F.length = 71) (hm : h (b + 220) = some (.inr (11, F))) (f_names : F[26]? = some (.ref (b + 240))) (hnm : ab_J G h (b + 240) 20 nm) (hnr : nr ≤ 20) : CT G mX13_isNew [.ref (b + 220), .long w, .int (nI nr)] h z (fun v h1 z1 => (∃ w0 : Int32, v = some (.int w0) ∧ ((w0 = 1 ∧ (0 < w ∧ nr < 20 ∧ ∀ k, k < nr → ¬ nm k = w)) ∨ (w0 = 0 ∧ ¬ (0 < w ∧ nr < 20 ∧ ∀ k, k < nr → ¬ nm k = w)))) ∧ h1 = h ∧ z1 = z) := by
  refine CT.of (by decide +kernel) rfl rfl (Nat.le_of_ble_eq_true rfl) ?_
  refine v_lload_n dX13_isNew_0 rfl 1 rfl ?_
  refine v_lconst (v := 0) dX13_isNew_1 (by decide) ?_
  refine v_lcmp_le (tgt := 16) dX13_isNew_2 dX13_isNew_3 (by decide) (fun c_3 => ?_) (fun c_3 => ?_)
  · refine v_iconst (v := 0) dX13_isNew_16 (by decide) ?_
    refine v_istore (L' := [(4, _), (0, _), (1, _), (3, _)]) dX13_isNew_17 (Nat.le_of_ble_eq_true rfl) rfl ?_
    refine v_iconst (v := 0) dX13_isNew_19 (by decide) ?_
    refine v_istore (L' := [(5, _), (4, _), (0, _), (1, _), (3, _)]) dX13_isNew_20 (Nat.le_of_ble_eq_true rfl) rfl ?_
    refine v_sub (L' := [(5, _), (4, _), (0, _), (1, _), (3, _)]) [0, 1, 2, 3, 4] rfl ?_
    refine l_isNew G h z b nr F w nm hlen hm f_names hnm hnr nr 0 _ (by omega) ?_
    first
    | (have c9 : w ≤ 0 := c_3
       exact Or.inr ⟨rfl, fun q => Int64.not_le.mpr q.1 c9⟩)
    | (have c9 : (20 : Int32) ≤ nI nr := c_9
       have c8 := (nI_leI (a := 20) (by omega) (by omega)).mp c9
       exact Or.inr ⟨rfl, fun q => absurd q.2.1 (by omega)⟩)
    | exact Or.inl ⟨rfl, Int64.not_le.mp c_3, (nI_ltI (b := 20) (by omega) (by omega)).mp (Int32.not_le.mp c_9), fun j hj => absurd hj (Nat.not_lt_zero j)⟩
  · refine v_iload_n dX13_isNew_6 rfl 2 rfl ?_
    refine v_bipush (v := 20) dX13_isNew_7 (by decide) ?_
    refine v_icmp_ge (tgt := 16) dX13_isNew_9 (by decide) (fun c_9 => ?_) (fun c_9 => ?_)
    · refine v_iconst (v := 0) dX13_isNew_16 (by decide) ?_
      refine v_istore (L' := [(4, _), (0, _), (1, _), (3, _)]) dX13_isNew_17 (Nat.le_of_ble_eq_true rfl) rfl ?_
      refine v_iconst (v := 0) dX13_isNew_19 (by decide) ?_
      refine v_istore (L' := [(5, _), (4, _), (0, _), (1, _), (3, _)]) dX13_isNew_20 (Nat.le_of_ble_eq_true rfl) rfl ?_
      refine v_sub (L' := [(5, _), (4, _), (0, _), (1, _), (3, _)]) [0, 1, 2, 3, 4] rfl ?_
      refine l_isNew G h z b nr F w nm hlen hm f_names hnm hnr nr 0 _ (by omega) ?_
      first
      | (have c9 : w ≤ 0 := c_3
         exact Or.inr ⟨rfl, fun q => Int64.not_le.mpr q.1 c9⟩)
      | (have c9 : (20 : Int32) ≤ nI nr := c_9
         have c8 := (nI_leI (a := 20) (by omega) (by omega)).mp c9
         exact Or.inr ⟨rfl, fun q => absurd q.2.1 (by omega)⟩)
      | exact Or.inl ⟨rfl, Int64.not_le.mp c_3, (nI_ltI (b := 20) (by omega) (by omega)).mp (Int32.not_le.mp c_9), fun j hj => absurd hj (Nat.not_lt_zero j)⟩
    · refine v_iconst (v := 1) dX13_isNew_12 (by decide) ?_
      refine v_goto (tgt := 17) dX13_isNew_13 (by decide) ?_
      refine v_istore (L' := [(4, _), (0, _), (1, _), (3, _)]) dX13_isNew_17 (Nat.le_of_ble_eq_true rfl) rfl ?_
      refine v_iconst (v := 0) dX13_isNew_19 (by decide) ?_
      refine v_istore (L' := [(5, _), (4, _), (0, _), (1, _), (3, _)]) dX13_isNew_20 (Nat.le_of_ble_eq_true rfl) rfl ?_
      refine v_sub (L' := [(5, _), (4, _), (0, _), (1, _), (3, _)]) [0, 1, 2, 3, 4] rfl ?_
      refine l_isNew G h z b nr F w nm hlen hm f_names hnm hnr nr 0 _ (by omega) ?_
      first
      | (have c9 : w ≤ 0 := c_3
         exact Or.inr ⟨rfl, fun q => Int64.not_le.mpr q.1 c9⟩)
      | (have c9 : (20 : Int32) ≤ nI nr := c_9
         have c8 := (nI_leI (a := 20) (by omega) (by omega)).mp c9
         exact Or.inr ⟨rfl, fun q => absurd q.2.1 (by omega)⟩)
      | exact Or.inl ⟨rfl, Int64.not_le.mp c_3, (nI_ltI (b := 20) (by omega) (by omega)).mp (Int32.not_le.mp c_9), fun j hj => absurd hj (Nat.not_lt_zero j)⟩

