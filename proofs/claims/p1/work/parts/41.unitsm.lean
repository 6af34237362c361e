theorem sv_a0 (n : Nat) : nI n + 0 = nI n := by rw [show (0 : Int32) = nI 0 from rfl, nI_add]; rfl
set_option maxHeartbeats 4000000 in
set_option maxRecDepth 100000 in
theorem l_units1m (G : sv_G) (Qr : Option Value → sv_h → Nat → Prop) (h : sv_h) (z m : Nat) (x : Int32) (hf : ∀ p, p < 4 → ¬ sv_by x (sv_sf p) = 0 → ¬ sv_okc (sv_by x (sv_sf p)) → Qr (some (.int 0)) h z) (hk : sv_oks x 4 → V G mX13_units (sv_MQ G mX13_units Qr) 57 [(3, .int (sv_sf 4)), (2, .int (nI (sv_ct x 4))), (0, .ref m), (1, .int x)] [] h z 0 0) : ∀ (c p : Nat), p + c = 4 → sv_oks x p → V G mX13_units (sv_MQ G mX13_units Qr) 10 [(3, .int (sv_sf p)), (2, .int (nI (sv_ct x p))), (0, .ref m), (1, .int x)] [] h z 0 0 := by
  intro c
  induction c with
  | zero =>
    intro p hpc hok
    refine v_iload_n dX13_units_10 rfl 0 rfl ?_
    refine v_if_lt (tgt := 57) dX13_units_11 (by decide) (fun c_11 => ?_) (fun c_11 => ?_)
    · obtain rfl : p = 4 := by omega
      exact hk hok
    · exact absurd (by rw [show p = 4 by omega]; exact sv_sf_4) c_11
  | succ c ih =>
    intro p hpc hok
    refine v_iload_n dX13_units_10 rfl 0 rfl ?_
    refine v_if_lt (tgt := 57) dX13_units_11 (by decide) (fun c_11 => ?_) (fun c_11 => ?_)
    · exact absurd c_11 (sv_sf_nn (by omega))
    · refine v_iload_n dX13_units_14 rfl 3 rfl ?_
      refine v_iload_n dX13_units_15 rfl 0 rfl ?_
      refine v_iushr dX13_units_16 rfl ?_
      refine v_sipush (v := 255) dX13_units_17 (by decide) ?_
      refine v_iand dX13_units_20 ?_
      refine v_topi (fun u e_u => ?_)
      refine v_istore (L' := [(4, _), (3, _), (2, _), (0, _), (1, _)]) dX13_units_21 (Nat.le_of_ble_eq_true rfl) rfl ?_
      have e_u : u = sv_by x (sv_sf p) := e_u
      refine v_iload dX13_units_23 0 rfl ?_
      refine v_if_eq (tgt := 38) dX13_units_25 (by decide) (fun c_25 => ?_) (fun c_25 => ?_)
      · refine v_iload_n dX13_units_38 rfl 2 rfl ?_
        refine v_iload dX13_units_39 0 rfl ?_
        refine v_if_eq (tgt := 48) dX13_units_41 (by decide) (fun c_41 => ?_) (fun c_41 => ?_)
        · refine v_iconst (v := 0) dX13_units_48 (by decide) ?_
          refine v_iadd dX13_units_49 ?_
          refine v_istore_n (L' := [(2, _), (4, _), (3, _), (0, _), (1, _)]) dX13_units_50 rfl (Nat.le_of_ble_eq_true rfl) rfl ?_
          refine v_iinc (j := 2) (L' := [(3, _), (2, _), (4, _), (0, _), (1, _)]) (v := sv_sf (p + 1)) dX13_units_51 rfl (sv_sf_s (by omega)) (Nat.le_of_ble_eq_true rfl) rfl ?_
          refine v_goto (tgt := 10) dX13_units_54 (by decide) ?_
          refine v_sub (L' := [(3, _), (2, _), (0, _), (1, _)]) [0, 1, 3, 4] rfl ?_
          first
          | exact absurd c_25 c_41
          | exact absurd c_41 c_25
          | (have e9 := ih (p + 1) (by omega) (sv_oks_s hok (Or.inl (e_u ▸ c_25))); rw [sv_ct_0 (e_u ▸ c_25), ← sv_a0 (sv_ct x p)] at e9; exact e9)
          | (have e9 := ih (p + 1) (by omega) (sv_oks_s hok (Or.inr (e_u ▸ (show sv_okc u from sv_ifn (c := u = 10 ∨ 32 ≤ u ∧ u ≤ 126) c_33)))); rw [sv_ct_1 (e_u ▸ c_25), ← nI_1] at e9; exact e9)
        · refine v_iconst (v := 1) dX13_units_44 (by decide) ?_
          refine v_goto (tgt := 49) dX13_units_45 (by decide) ?_
          refine v_iadd dX13_units_49 ?_
          refine v_istore_n (L' := [(2, _), (4, _), (3, _), (0, _), (1, _)]) dX13_units_50 rfl (Nat.le_of_ble_eq_true rfl) rfl ?_
          refine v_iinc (j := 2) (L' := [(3, _), (2, _), (4, _), (0, _), (1, _)]) (v := sv_sf (p + 1)) dX13_units_51 rfl (sv_sf_s (by omega)) (Nat.le_of_ble_eq_true rfl) rfl ?_
          refine v_goto (tgt := 10) dX13_units_54 (by decide) ?_
          refine v_sub (L' := [(3, _), (2, _), (0, _), (1, _)]) [0, 1, 3, 4] rfl ?_
          first
          | exact absurd c_25 c_41
          | exact absurd c_41 c_25
          | (have e9 := ih (p + 1) (by omega) (sv_oks_s hok (Or.inl (e_u ▸ c_25))); rw [sv_ct_0 (e_u ▸ c_25), ← sv_a0 (sv_ct x p)] at e9; exact e9)
          | (have e9 := ih (p + 1) (by omega) (sv_oks_s hok (Or.inr (e_u ▸ (show sv_okc u from sv_ifn (c := u = 10 ∨ 32 ≤ u ∧ u ≤ 126) c_33)))); rw [sv_ct_1 (e_u ▸ c_25), ← nI_1] at e9; exact e9)
      · refine v_iload dX13_units_28 0 rfl ?_
        refine v_callS (M' := mX13_isCharacter) (n := 1) (As := [_]) ggX13_units_X13_isCharacter (by decide +kernel) (by decide +kernel) (by decide +kernel) rfl (by decide +kernel) ⟨(Nat.le_of_ble_eq_true rfl), (Nat.le_of_ble_eq_true rfl)⟩ dX13_units_30 rfl ⟨(Nat.le_of_ble_eq_true rfl), (Nat.le_of_ble_eq_true rfl)⟩ (Nat.le_of_ble_eq_true rfl) rfl (m_isCharacter G _ _ u) (fun v h1 z1 hq => ?_)
        obtain ⟨rfl, rfl, rfl⟩ := hq
        refine v_if_ne (tgt := 38) dX13_units_33 (by decide) (fun c_33 => ?_) (fun c_33 => ?_)
        · refine v_iload_n dX13_units_38 rfl 2 rfl ?_
          refine v_iload dX13_units_39 0 rfl ?_
          refine v_if_eq (tgt := 48) dX13_units_41 (by decide) (fun c_41 => ?_) (fun c_41 => ?_)
          · refine v_iconst (v := 0) dX13_units_48 (by decide) ?_
            refine v_iadd dX13_units_49 ?_
            refine v_istore_n (L' := [(2, _), (4, _), (3, _), (0, _), (1, _)]) dX13_units_50 rfl (Nat.le_of_ble_eq_true rfl) rfl ?_
            refine v_iinc (j := 2) (L' := [(3, _), (2, _), (4, _), (0, _), (1, _)]) (v := sv_sf (p + 1)) dX13_units_51 rfl (sv_sf_s (by omega)) (Nat.le_of_ble_eq_true rfl) rfl ?_
            refine v_goto (tgt := 10) dX13_units_54 (by decide) ?_
            refine v_sub (L' := [(3, _), (2, _), (0, _), (1, _)]) [0, 1, 3, 4] rfl ?_
            first
            | exact absurd c_25 c_41
            | exact absurd c_41 c_25
            | (have e9 := ih (p + 1) (by omega) (sv_oks_s hok (Or.inl (e_u ▸ c_25))); rw [sv_ct_0 (e_u ▸ c_25), ← sv_a0 (sv_ct x p)] at e9; exact e9)
            | (have e9 := ih (p + 1) (by omega) (sv_oks_s hok (Or.inr (e_u ▸ (show sv_okc u from sv_ifn (c := u = 10 ∨ 32 ≤ u ∧ u ≤ 126) c_33)))); rw [sv_ct_1 (e_u ▸ c_25), ← nI_1] at e9; exact e9)
          · refine v_iconst (v := 1) dX13_units_44 (by decide) ?_
            refine v_goto (tgt := 49) dX13_units_45 (by decide) ?_
            refine v_iadd dX13_units_49 ?_
            refine v_istore_n (L' := [(2, _), (4, _), (3, _), (0, _), (1, _)]) dX13_units_50 rfl (Nat.le_of_ble_eq_true rfl) rfl ?_
            refine v_iinc (j := 2) (L' := [(3, _), (2, _), (4, _), (0, _), (1, _)]) (v := sv_sf (p + 1)) dX13_units_51 rfl (sv_sf_s (by omega)) (Nat.le_of_ble_eq_true rfl) rfl ?_
            refine v_goto (tgt := 10) dX13_units_54 (by decide) ?_
            refine v_sub (L' := [(3, _), (2, _), (0, _), (1, _)]) [0, 1, 3, 4] rfl ?_
            first
            | exact absurd c_25 c_41
            | exact absurd c_41 c_25
            | (have e9 := ih (p + 1) (by omega) (sv_oks_s hok (Or.inl (e_u ▸ c_25))); rw [sv_ct_0 (e_u ▸ c_25), ← sv_a0 (sv_ct x p)] at e9; exact e9)
            | (have e9 := ih (p + 1) (by omega) (sv_oks_s hok (Or.inr (e_u ▸ (show sv_okc u from sv_ifn (c := u = 10 ∨ 32 ≤ u ∧ u ≤ 126) c_33)))); rw [sv_ct_1 (e_u ▸ c_25), ← nI_1] at e9; exact e9)
        · refine v_iconst (v := 0) dX13_units_36 (by decide) ?_
          exact v_iret rfl dX13_units_37 (Nat.le_of_ble_eq_true rfl) (Nat.le_of_ble_eq_true rfl) rfl (hf p (by omega) (e_u ▸ c_25) (e_u ▸ (show ¬ sv_okc u from sv_ift (c := u = 10 ∨ 32 ≤ u ∧ u ≤ 126) c_33)))

set_option maxHeartbeats 4000000 in
set_option maxRecDepth 100000 in
theorem l_units2m (G : sv_G) (Qr : Option Value → sv_h → Nat → Prop) (h : sv_h) (z m : Nat) (x w : Int32) (fs : List Value) (A n : Nat) (f : Nat → Int32) (hne : m ≠ A) (hn : n + sv_ct x 4 ≤ 600) (hk : ∀ (hi : sv_h) (F : List Value), (hi m = some (.inr (11, F)) ∧ F.length = 71 ∧ F[0]? = some (.int 0) ∧ F[16]? = some (.ref A) ∧ F[17]? = some (.int (nI (n + sv_ct x 4))) ∧ (∀ k, k ≠ 0 → k ≠ 17 → F[k]? = fs[k]?) ∧ hi A = some (.inl (G.2.2.1 0, 600, .inl (sv_fx f n x 4))) ∧ ∀ a, a ≠ m → a ≠ A → hi a = h a) → Qr (some (.int 1)) hi z) : ∀ (c p : Nat) (hi : sv_h) (F : List Value), p + c = 4 → (hi m = some (.inr (11, F)) ∧ F.length = 71 ∧ F[0]? = some (.int 0) ∧ F[16]? = some (.ref A) ∧ F[17]? = some (.int (nI (n + sv_ct x p))) ∧ (∀ k, k ≠ 0 → k ≠ 17 → F[k]? = fs[k]?) ∧ hi A = some (.inl (G.2.2.1 0, 600, .inl (sv_fx f n x p))) ∧ ∀ a, a ≠ m → a ≠ A → hi a = h a) → V G mX13_units (sv_MQ G mX13_units Qr) 74 [(3, .int (sv_sf p)), (2, .int w), (0, .ref m), (1, .int x)] [] hi z 0 0 := by
  intro c
  induction c with
  | zero =>
    intro p hi F hpc hinv
    obtain ⟨hm, hlen, g0, g16, g17, gk, hA, hfr⟩ := hinv
    refine v_iload_n dX13_units_74 rfl 0 rfl ?_
    refine v_if_lt (tgt := 120) dX13_units_75 (by decide) (fun c_75 => ?_) (fun c_75 => ?_)
    · refine v_iconst (v := 1) dX13_units_120 (by decide) ?_
      exact v_iret rfl dX13_units_121 (Nat.le_of_ble_eq_true rfl) (Nat.le_of_ble_eq_true rfl) rfl (hk hi F (by rw [show 4 = p by omega]; exact ⟨hm, hlen, g0, g16, g17, gk, hA, hfr⟩))
    · exact absurd (by rw [show p = 4 by omega]; exact sv_sf_4) c_75
  | succ c ih =>
    intro p hi F hpc hinv
    obtain ⟨hm, hlen, g0, g16, g17, gk, hA, hfr⟩ := hinv
    refine v_iload_n dX13_units_74 rfl 0 rfl ?_
    refine v_if_lt (tgt := 120) dX13_units_75 (by decide) (fun c_75 => ?_) (fun c_75 => ?_)
    · exact absurd c_75 (sv_sf_nn (by omega))
    · refine v_iload_n dX13_units_78 rfl 3 rfl ?_
      refine v_iload_n dX13_units_79 rfl 0 rfl ?_
      refine v_iushr dX13_units_80 rfl ?_
      refine v_sipush (v := 255) dX13_units_81 (by decide) ?_
      refine v_iand dX13_units_84 ?_
      refine v_if_eq (tgt := 114) dX13_units_85 (by decide) (fun c_85 => ?_) (fun c_85 => ?_)
      · refine v_iinc (j := 0) (L' := [(3, _), (2, _), (0, _), (1, _)]) (v := sv_sf (p + 1)) dX13_units_114 rfl (sv_sf_s (by omega)) (Nat.le_of_ble_eq_true rfl) rfl ?_
        refine v_goto (tgt := 74) dX13_units_117 (by decide) ?_
        refine v_sub (L' := [(3, _), (2, _), (0, _), (1, _)]) [0, 1, 2, 3] rfl ?_
        first
        | exact ih (p + 1) _ F (by omega) (by rw [sv_ct_0 c_85, sv_fx_0 c_85]; exact ⟨hm, hlen, g0, g16, g17, gk, hA, hfr⟩)
        | (refine ih (p + 1) _ (F.set 17 (.int (nI (n + sv_ct x p) + 1))) (by omega) ⟨sv_us, by rw [List.length_set]; exact hlen, (List.getElem?_set_ne (by decide)).trans g0, (List.getElem?_set_ne (by decide)).trans g16, ?_, fun k q1 q2 => (List.getElem?_set_ne (fun q => q2 q.symm)).trans (gk k q1 q2), ?_, fun a q1 q2 => (sv_un q1).trans ((sv_un q2).trans (hfr a q1 q2))⟩
           · rw [sv_ls (by omega), sv_ct_1 c_85, nI_1]; rfl
           · rw [sv_un (fun q => hne q.symm), sv_us, sv_fx_1 c_85, nI_clamp (by have q1 := sv_ct_le x p; omega)]; rfl)
      · refine v_aload_n dX13_units_88 rfl 2 rfl ?_
        refine v_getf 16 (ci := 11) (C := RX13) (T := TX13) (N := 71) rfl iwX13_units_X13 (Nat.le_of_ble_eq_true rfl) (by decide +kernel) dX13_units_89 (by repeat (first | (with_reducible refine sv_us.trans ?_; exact rfl) | with_reducible assumption | with_reducible refine (sv_un (by omega)).trans ?_)) (by repeat (first | with_reducible assumption | (with_reducible refine (sv_ls (by first | omega | (simp only [List.length_set]; omega))).trans ?_; exact rfl) | with_reducible refine (List.getElem?_set_ne (by decide)).trans ?_)) ?_
        refine v_aload_n dX13_units_92 rfl 2 rfl ?_
        refine v_getf 17 (ci := 11) (C := RX13) (T := TX13) (N := 71) rfl iwX13_units_X13 (Nat.le_of_ble_eq_true rfl) (by decide +kernel) dX13_units_93 (by repeat (first | (with_reducible refine sv_us.trans ?_; exact rfl) | with_reducible assumption | with_reducible refine (sv_un (by omega)).trans ?_)) (by repeat (first | with_reducible assumption | (with_reducible refine (sv_ls (by first | omega | (simp only [List.length_set]; omega))).trans ?_; exact rfl) | with_reducible refine (List.getElem?_set_ne (by decide)).trans ?_)) ?_
        refine v_iload_n dX13_units_96 rfl 3 rfl ?_
        refine v_iload_n dX13_units_97 rfl 0 rfl ?_
        refine v_iushr dX13_units_98 rfl ?_
        refine v_sipush (v := 255) dX13_units_99 (by decide) ?_
        refine v_iand dX13_units_102 ?_
        refine v_iast dX13_units_103 (by repeat (first | (with_reducible refine sv_us.trans ?_; exact rfl) | with_reducible assumption | with_reducible refine (sv_un (by omega)).trans ?_)) (vp_in_nI (by have q1 := sv_ct_1 (x := x) (p := p) c_85; have q2 := sv_ct_mono x (show p + 1 ≤ 4 by omega); omega) (by omega)) ?_
        refine v_aload_n dX13_units_104 rfl 2 rfl ?_
        refine v_dup dX13_units_105 rfl ?_
        refine v_getf 17 (ci := 11) (C := RX13) (T := TX13) (N := 71) rfl iwX13_units_X13 (Nat.le_of_ble_eq_true rfl) (by decide +kernel) dX13_units_106 (by repeat (first | (with_reducible refine sv_us.trans ?_; exact rfl) | with_reducible assumption | with_reducible refine (sv_un (by omega)).trans ?_)) (by repeat (first | with_reducible assumption | (with_reducible refine (sv_ls (by first | omega | (simp only [List.length_set]; omega))).trans ?_; exact rfl) | with_reducible refine (List.getElem?_set_ne (by decide)).trans ?_)) ?_
        refine v_iconst (v := 1) dX13_units_109 (by decide) ?_
        refine v_iadd dX13_units_110 ?_
        refine v_putf 17 (fs' := _) (ci := 11) (C := RX13) (T := TX13) (N := 71) (ty := .int) rfl iwX13_units_X13 tyX13 tyX13_ok nmX13 (Nat.le_of_ble_eq_true rfl) (by decide +kernel) rfl rfl dX13_units_111 rfl rfl (by repeat (first | (with_reducible refine sv_us.trans ?_; exact rfl) | with_reducible assumption | with_reducible refine (sv_un (by omega)).trans ?_)) (by first | omega | (simp only [List.length_set]; omega)) rfl ?_
        refine v_iinc (j := 0) (L' := [(3, _), (2, _), (0, _), (1, _)]) (v := sv_sf (p + 1)) dX13_units_114 rfl (sv_sf_s (by omega)) (Nat.le_of_ble_eq_true rfl) rfl ?_
        refine v_goto (tgt := 74) dX13_units_117 (by decide) ?_
        refine v_sub (L' := [(3, _), (2, _), (0, _), (1, _)]) [0, 1, 2, 3] rfl ?_
        first
        | exact ih (p + 1) _ F (by omega) (by rw [sv_ct_0 c_85, sv_fx_0 c_85]; exact ⟨hm, hlen, g0, g16, g17, gk, hA, hfr⟩)
        | (refine ih (p + 1) _ (F.set 17 (.int (nI (n + sv_ct x p) + 1))) (by omega) ⟨sv_us, by rw [List.length_set]; exact hlen, (List.getElem?_set_ne (by decide)).trans g0, (List.getElem?_set_ne (by decide)).trans g16, ?_, fun k q1 q2 => (List.getElem?_set_ne (fun q => q2 q.symm)).trans (gk k q1 q2), ?_, fun a q1 q2 => (sv_un q1).trans ((sv_un q2).trans (hfr a q1 q2))⟩
           · rw [sv_ls (by omega), sv_ct_1 c_85, nI_1]; rfl
           · rw [sv_un (fun q => hne q.symm), sv_us, sv_fx_1 c_85, nI_clamp (by have q1 := sv_ct_le x p; omega)]; rfl)

theorem sv_le8 {n c : Nat} (h : n + c ≤ 600) : nI n + nI c ≤ 600 := by
  rw [nI_add]
  exact nI_le (b := 600) h (by omega)
theorem sv_le9 {n c : Nat} (hn : n ≤ 600) (h : nI n + nI c ≤ 600) (hc : c ≤ 4 := by exact sv_ct_le _ 4) : n + c ≤ 600 := by
  rw [nI_add] at h
  exact (nI_leI (b := 600) (by omega) (by omega)).mp h
set_option maxHeartbeats 4000000 in
set_option maxRecDepth 100000 in
theorem m_units (G : sv_G) (h : sv_h) (z m : Nat) (fs : List Value) (hlen : fs.length = 71) (hm : h m = some (.inr (11, fs))) (x : Int32) (A n : Nat) (f : Nat → Int32) (hn : n ≤ 600) (f_tape : fs[16]? = some (.ref A)) (f_length : fs[17]? = some (.int (nI n))) (hA : h A = some (.inl (G.2.2.1 0, 600, .inl f))) (hne : m ≠ A) : CT G mX13_units [.ref m, .int x] h z (fun v h1 z1 => z1 = z ∧ ((sv_oks x 4 ∧ n + sv_ct x 4 ≤ 600 ∧ v = some (.int 1) ∧ ∃ F : List Value, (h1 m = some (.inr (11, F)) ∧ F.length = 71 ∧ F[0]? = some (.int 0) ∧ F[16]? = some (.ref A) ∧ F[17]? = some (.int (nI (n + sv_ct x 4))) ∧ (∀ k, k ≠ 0 → k ≠ 17 → F[k]? = fs[k]?) ∧ h1 A = some (.inl (G.2.2.1 0, 600, .inl (sv_fx f n x 4))) ∧ ∀ a, a ≠ m → a ≠ A → h1 a = h a)) ∨ (¬ (sv_oks x 4 ∧ n + sv_ct x 4 ≤ 600) ∧ v = some (.int 0) ∧ h1 = va_up h m (some (.inr (11, fs.set 0 (.int 0))))))) := by
  refine CT.of (by decide +kernel) rfl rfl (Nat.le_of_ble_eq_true rfl) ?_
  refine v_aload_n dX13_units_0 rfl 0 rfl ?_
  refine v_iconst (v := 0) dX13_units_1 (by decide) ?_
  refine v_putf 0 (fs' := _) (ci := 11) (C := RX13) (T := TX13) (N := 71) (ty := .int) rfl iwX13_units_X13 tyX13 tyX13_ok nmX13 (Nat.le_of_ble_eq_true rfl) (by decide +kernel) rfl rfl dX13_units_2 rfl rfl (by repeat (first | (with_reducible refine sv_us.trans ?_; exact rfl) | with_reducible assumption | with_reducible refine (sv_un (by omega)).trans ?_)) (by first | omega | (simp only [List.length_set]; omega)) rfl ?_
  refine v_iconst (v := 0) dX13_units_5 (by decide) ?_
  refine v_istore_n (L' := [(2, _), (0, _), (1, _)]) dX13_units_6 rfl (Nat.le_of_ble_eq_true rfl) rfl ?_
  refine v_bipush (v := 24) dX13_units_7 (by decide) ?_
  refine v_istore_n (L' := [(3, _), (2, _), (0, _), (1, _)]) dX13_units_9 rfl (Nat.le_of_ble_eq_true rfl) rfl ?_
  refine v_sub (L' := [(3, _), (2, _), (0, _), (1, _)]) [0, 1, 2, 3] rfl ?_
  refine l_units1m G _ _ z m x (fun p hp q1 q2 => ⟨rfl, Or.inr ⟨fun q => (q.1 p hp).elim q1 q2, rfl, rfl⟩⟩) (fun hok => ?_) 4 0 rfl (fun p hp => absurd hp (Nat.not_lt_zero p))
  refine v_aload_n dX13_units_57 rfl 2 rfl ?_
  refine v_getf 17 (ci := 11) (C := RX13) (T := TX13) (N := 71) rfl iwX13_units_X13 (Nat.le_of_ble_eq_true rfl) (by decide +kernel) dX13_units_58 (by repeat (first | (with_reducible refine sv_us.trans ?_; exact rfl) | with_reducible assumption | with_reducible refine (sv_un (by omega)).trans ?_)) (by repeat (first | with_reducible assumption | (with_reducible refine (sv_ls (by first | omega | (simp only [List.length_set]; omega))).trans ?_; exact rfl) | with_reducible refine (List.getElem?_set_ne (by decide)).trans ?_)) ?_
  refine v_iload_n dX13_units_61 rfl 1 rfl ?_
  refine v_iadd dX13_units_62 ?_
  refine v_sipush (v := 600) dX13_units_63 (by decide) ?_
  refine v_icmp_le (tgt := 71) dX13_units_66 (by decide) (fun c_66 => ?_) (fun c_66 => ?_)
  · refine v_bipush (v := 24) dX13_units_71 (by decide) ?_
    refine v_istore_n (L' := [(3, _), (2, _), (0, _), (1, _)]) dX13_units_73 rfl (Nat.le_of_ble_eq_true rfl) rfl ?_
    refine v_sub (L' := [(3, _), (2, _), (0, _), (1, _)]) [0, 1, 2, 3] rfl ?_
    exact l_units2m G _ h z m x _ fs A n f hne (sv_le9 hn c_66) (fun hi F e => ⟨rfl, Or.inl ⟨hok, sv_le9 hn c_66, rfl, F, e⟩⟩) 4 0 _ (fs.set 0 (.int 0)) rfl ⟨sv_us, by rw [List.length_set]; exact hlen, sv_ls (by omega), (List.getElem?_set_ne (by decide)).trans f_tape, (List.getElem?_set_ne (by decide)).trans f_length, fun k q1 q2 => List.getElem?_set_ne (fun q => q1 q.symm), (sv_un (fun q => hne q.symm)).trans hA, fun a q1 q2 => sv_un q1⟩
  · refine v_iconst (v := 0) dX13_units_69 (by decide) ?_
    exact v_iret rfl dX13_units_70 (Nat.le_of_ble_eq_true rfl) (Nat.le_of_ble_eq_true rfl) rfl ⟨rfl, Or.inr ⟨fun q => absurd (sv_le8 q.2) c_66, rfl, rfl⟩⟩

