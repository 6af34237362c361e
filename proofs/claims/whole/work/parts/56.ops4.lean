theorem c_late_value (G : sv_G) (h : sv_h) (z t n k j : Nat) (lr : Nat → Int64) (H : ab_late G h t n lr) (hk : k < n) (hj : j < 12) : CT G mX10_value [.ref t, .int (nI k), .int (nI j)] h z (fun v h1 z1 => v = some (.long (lr (12 * k + j))) ∧ h1 = h ∧ z1 = z) := by
  obtain ⟨hn, xx, ro, od, st, us, ov, hm, w, ⟨y0, y1, y2, y3, y4⟩, y5⟩ := H
  obtain ⟨w1, w2, w3⟩ := y5 k hk
  refine (c_Told_value G h z t k j (w k) _ _ _ _ _ _ _ ro od y1 y2 y3 (by omega) hj w1 w2).mono (fun v h1 z1 _ r => ?_)
  rw [w3 j hj] at r
  exact r
/-- violation k touches the box -/
def ab_hit (lr : Nat → Int64) (x0 y0 x1 y1 : Int64) (k : Nat) : Bool := decide (¬ x1 < lr (12 * k + 0) ∧ x0 ≤ lr (12 * k + 2) ∧ ¬ y1 < lr (12 * k + 1) ∧ y0 ≤ lr (12 * k + 3))
def ab_hits (lr : Nat → Int64) (x0 y0 x1 y1 : Int64) : Nat → Nat
  | 0 => 0
  | k + 1 => ab_hits lr x0 y0 x1 y1 k + (if ab_hit lr x0 y0 x1 y1 k = true then 1 else 0)
theorem ab_hits_t {lr : Nat → Int64} {x0 y0 x1 y1 : Int64} {k : Nat} (h1 : ¬ x1 < lr (12 * k + 0)) (h2 : x0 ≤ lr (12 * k + 2)) (h3 : ¬ y1 < lr (12 * k + 1)) (h4 : y0 ≤ lr (12 * k + 3)) : ab_hits lr x0 y0 x1 y1 (k + 1) = ab_hits lr x0 y0 x1 y1 k + 1 := by
  show _ + (if ab_hit lr x0 y0 x1 y1 k = true then 1 else 0) = _
  rw [if_pos (show ab_hit lr x0 y0 x1 y1 k = true from decide_eq_true ⟨h1, h2, h3, h4⟩)]
theorem ab_hits_f {lr : Nat → Int64} {x0 y0 x1 y1 : Int64} {k : Nat} (h : x1 < lr (12 * k + 0) ∨ ¬ x0 ≤ lr (12 * k + 2) ∨ y1 < lr (12 * k + 1) ∨ ¬ y0 ≤ lr (12 * k + 3)) : ab_hits lr x0 y0 x1 y1 (k + 1) = ab_hits lr x0 y0 x1 y1 k := by
  show _ + (if ab_hit lr x0 y0 x1 y1 k = true then 1 else 0) = _
  rw [if_neg (fun q => by
    have r := of_decide_eq_true q
    rcases h with h | h | h | h
    · exact r.1 h
    · exact h r.2.1
    · exact r.2.2.1 h
    · exact h r.2.2.2)]
  rfl
set_option maxHeartbeats 4000000 in
set_option maxRecDepth 100000 in
theorem l_changed (G : sv_G) (Qr : Option Value → sv_h → Nat → Prop) (Qx : String → sv_h → Nat → Prop) (h : sv_h) (z b nl : Nat) (lr : Nat → Int64) (x0 y0 x1 y1 : Int64) (ly tp rd ck wv ru la fo fl lo : Nat) (rc lx lf : Int32) (hb : h b = some (.inr (10, [.ref ly, .ref tp, .ref rd, .ref ck, .ref wv, .ref ru, .int rc, .int lx, .int lf, .ref la, .ref fo, .ref fl, .ref lo]))) (hla : ab_late G h la nl lr) (hk : Qr (some (.int (nI (ab_hits lr x0 y0 x1 y1 nl)))) h z) : ∀ (c n : Nat), n + c = nl → V G mX12_changed (sv_XQ G mX12_changed Qr Qx) 47 [(10, .int (nI n)), (9, .int (nI (ab_hits lr x0 y0 x1 y1 n))), (0, .ref b), (1, .long x0), (3, .long y0), (5, .long x1), (7, .long y1)] [] h z 0 0 := by
  have hnl : nl ≤ 1500 := hla.1
  have htl := hla.2
  obtain ⟨xx, ro, od, st, us, ov, hm, w, ⟨w0, w1, w2, w3, w4⟩, w5⟩ := htl
  intro c
  induction c with
  | zero =>
    intro n hn
    refine v_iload dX12_changed_47 0 rfl ?_
    refine v_aload_n dX12_changed_49 rfl 2 rfl ?_
    refine v_getf 9 (ci := 10) (C := RX12) (T := TX12) (N := 13) rfl iwX12_changed_X12 (Nat.le_of_ble_eq_true rfl) (by decide +kernel) dX12_changed_50 (by repeat (first | (with_reducible refine sv_us.trans ?_; exact rfl) | with_reducible assumption | with_reducible refine (sv_un (by omega)).trans ?_)) rfl ?_
    refine v_getf 4 (ci := 8) (C := RX10) (T := TX10) (N := 7) rfl iwX12_changed_X10 (Nat.le_of_ble_eq_true rfl) (by decide +kernel) dX12_changed_53 (by repeat (first | (with_reducible refine sv_us.trans ?_; exact rfl) | with_reducible assumption | with_reducible refine (sv_un (by omega)).trans ?_)) rfl ?_
    refine v_icmp_ge (tgt := 154) dX12_changed_56 (by decide) (fun c_56 => ?_) (fun c_56 => ?_)
    · refine v_iload dX12_changed_154 1 rfl ?_
      exact v_xret (v_iret rfl dX12_changed_156 (Nat.le_of_ble_eq_true rfl) (Nat.le_of_ble_eq_true rfl) rfl (by rw [show n = nl by omega]; exact hk))
    · exact absurd (show nI nl ≤ nI n from nI_le (by omega) (by omega)) c_56
  | succ c ih =>
    intro n hn
    refine v_iload dX12_changed_47 0 rfl ?_
    refine v_aload_n dX12_changed_49 rfl 2 rfl ?_
    refine v_getf 9 (ci := 10) (C := RX12) (T := TX12) (N := 13) rfl iwX12_changed_X12 (Nat.le_of_ble_eq_true rfl) (by decide +kernel) dX12_changed_50 (by repeat (first | (with_reducible refine sv_us.trans ?_; exact rfl) | with_reducible assumption | with_reducible refine (sv_un (by omega)).trans ?_)) rfl ?_
    refine v_getf 4 (ci := 8) (C := RX10) (T := TX10) (N := 7) rfl iwX12_changed_X10 (Nat.le_of_ble_eq_true rfl) (by decide +kernel) dX12_changed_53 (by repeat (first | (with_reducible refine sv_us.trans ?_; exact rfl) | with_reducible assumption | with_reducible refine (sv_un (by omega)).trans ?_)) rfl ?_
    refine v_icmp_ge (tgt := 154) dX12_changed_56 (by decide) (fun c_56 => ?_) (fun c_56 => ?_)
    · exact absurd c_56 (nI_ge (by omega) (by omega))
    · refine v_aload_n dX12_changed_59 rfl 2 rfl ?_
      refine v_getf 9 (ci := 10) (C := RX12) (T := TX12) (N := 13) rfl iwX12_changed_X12 (Nat.le_of_ble_eq_true rfl) (by decide +kernel) dX12_changed_60 (by repeat (first | (with_reducible refine sv_us.trans ?_; exact rfl) | with_reducible assumption | with_reducible refine (sv_un (by omega)).trans ?_)) rfl ?_
      refine v_iload dX12_changed_63 0 rfl ?_
      refine v_iconst (v := 0) dX12_changed_65 (by decide) ?_
      refine v_callV (M' := mX10_value) (n := 2) (As := [_, _]) (ci := 8) (r := (RX10, TX10, 7)) gX12_changed_X10_value rfl (by decide +kernel) ⟨(Nat.le_of_ble_eq_true rfl), (Nat.le_of_ble_eq_true rfl)⟩ rfl rfl dX12_changed_66 rfl ⟨(Nat.le_of_ble_eq_true rfl), (Nat.le_of_ble_eq_true rfl)⟩ (Nat.le_of_ble_eq_true rfl) (by repeat (first | (with_reducible refine sv_us.trans ?_; exact rfl) | with_reducible assumption | with_reducible refine (sv_un (by omega)).trans ?_)) rfl (c_late_value G _ _ la nl n 0 lr hla (by omega) (by omega)) (fun v h1 z1 hq => ?_)
      obtain ⟨rfl, rfl, rfl⟩ := hq
      refine v_lload dX12_changed_69 5 rfl ?_
      refine v_lcmp_gt (tgt := 90) dX12_changed_71 dX12_changed_72 (by decide) (fun c_72 => ?_) (fun c_72 => ?_)
      · refine v_iconst (v := 1) dX12_changed_90 (by decide) ?_
        refine v_goto (tgt := 95) dX12_changed_91 (by decide) ?_
        refine v_istore (L' := [(11, _), (10, _), (9, _), (0, _), (1, _), (3, _), (5, _), (7, _)]) dX12_changed_95 (Nat.le_of_ble_eq_true rfl) rfl ?_
        refine v_aload_n dX12_changed_97 rfl 3 rfl ?_
        refine v_getf 9 (ci := 10) (C := RX12) (T := TX12) (N := 13) rfl iwX12_changed_X12 (Nat.le_of_ble_eq_true rfl) (by decide +kernel) dX12_changed_98 (by repeat (first | (with_reducible refine sv_us.trans ?_; exact rfl) | with_reducible assumption | with_reducible refine (sv_un (by omega)).trans ?_)) rfl ?_
        refine v_iload dX12_changed_101 1 rfl ?_
        refine v_iconst (v := 1) dX12_changed_103 (by decide) ?_
        refine v_callV (M' := mX10_value) (n := 2) (As := [_, _]) (ci := 8) (r := (RX10, TX10, 7)) gX12_changed_X10_value rfl (by decide +kernel) ⟨(Nat.le_of_ble_eq_true rfl), (Nat.le_of_ble_eq_true rfl)⟩ rfl rfl dX12_changed_104 rfl ⟨(Nat.le_of_ble_eq_true rfl), (Nat.le_of_ble_eq_true rfl)⟩ (Nat.le_of_ble_eq_true rfl) (by repeat (first | (with_reducible refine sv_us.trans ?_; exact rfl) | with_reducible assumption | with_reducible refine (sv_un (by omega)).trans ?_)) rfl (c_late_value G _ _ la nl n 1 lr hla (by omega) (by omega)) (fun v h1 z1 hq => ?_)
        obtain ⟨rfl, rfl, rfl⟩ := hq
        refine v_lload dX12_changed_107 7 rfl ?_
        refine v_lcmp_gt (tgt := 128) dX12_changed_109 dX12_changed_110 (by decide) (fun c_110 => ?_) (fun c_110 => ?_)
        · refine v_iconst (v := 1) dX12_changed_128 (by decide) ?_
          refine v_goto (tgt := 133) dX12_changed_129 (by decide) ?_
          refine v_istore (L' := [(12, _), (11, _), (10, _), (9, _), (0, _), (1, _), (3, _), (5, _), (7, _)]) dX12_changed_133 (Nat.le_of_ble_eq_true rfl) rfl ?_
          refine v_iload dX12_changed_135 1 rfl ?_
          refine v_if_ne (tgt := 148) dX12_changed_137 (by decide) (fun c_137 => ?_) (fun c_137 => ?_)
          · refine v_iinc (j := 2) (L' := [(10, _), (12, _), (11, _), (9, _), (0, _), (1, _), (3, _), (5, _), (7, _)]) (v := nI (n + 1)) dX12_changed_148 rfl (nI_1 _) (Nat.le_of_ble_eq_true rfl) rfl ?_
            refine v_goto (tgt := 47) dX12_changed_151 (by decide) ?_
            refine v_sub (L' := [(10, _), (9, _), (0, _), (1, _), (3, _), (5, _), (7, _)]) [0, 3, 4, 5, 6, 7, 8] rfl ?_
            first
            | exact absurd c_137 (by decide)
            | exact absurd rfl c_137
            | exact absurd c_142 (by decide)
            | exact absurd rfl c_142
            | (have e9 := ih (n + 1) (by omega); rw [ab_hits_t c_72 c_87 c_110 c_125] at e9; exact e9)
            | (have e9 := ih (n + 1) (by omega); rw [ab_hits_f (by first | exact Or.inl c_72 | exact Or.inr (Or.inl c_87) | exact Or.inr (Or.inr (Or.inl c_110)) | exact Or.inr (Or.inr (Or.inr c_125)))] at e9; exact e9)
          · refine v_iload dX12_changed_140 0 rfl ?_
            refine v_if_ne (tgt := 148) dX12_changed_142 (by decide) (fun c_142 => ?_) (fun c_142 => ?_)
            · refine v_iinc (j := 2) (L' := [(10, _), (12, _), (11, _), (9, _), (0, _), (1, _), (3, _), (5, _), (7, _)]) (v := nI (n + 1)) dX12_changed_148 rfl (nI_1 _) (Nat.le_of_ble_eq_true rfl) rfl ?_
              refine v_goto (tgt := 47) dX12_changed_151 (by decide) ?_
              refine v_sub (L' := [(10, _), (9, _), (0, _), (1, _), (3, _), (5, _), (7, _)]) [0, 3, 4, 5, 6, 7, 8] rfl ?_
              first
              | exact absurd c_137 (by decide)
              | exact absurd rfl c_137
              | exact absurd c_142 (by decide)
              | exact absurd rfl c_142
              | (have e9 := ih (n + 1) (by omega); rw [ab_hits_t c_72 c_87 c_110 c_125] at e9; exact e9)
              | (have e9 := ih (n + 1) (by omega); rw [ab_hits_f (by first | exact Or.inl c_72 | exact Or.inr (Or.inl c_87) | exact Or.inr (Or.inr (Or.inl c_110)) | exact Or.inr (Or.inr (Or.inr c_125)))] at e9; exact e9)
            · refine v_iinc (j := 3) (L' := [(9, _), (12, _), (11, _), (10, _), (0, _), (1, _), (3, _), (5, _), (7, _)]) (v := nI (ab_hits lr x0 y0 x1 y1 n + 1)) dX12_changed_145 rfl (nI_1 _) (Nat.le_of_ble_eq_true rfl) rfl ?_
              refine v_iinc (j := 3) (L' := [(10, _), (9, _), (12, _), (11, _), (0, _), (1, _), (3, _), (5, _), (7, _)]) (v := nI (n + 1)) dX12_changed_148 rfl (nI_1 _) (Nat.le_of_ble_eq_true rfl) rfl ?_
              refine v_goto (tgt := 47) dX12_changed_151 (by decide) ?_
              refine v_sub (L' := [(10, _), (9, _), (0, _), (1, _), (3, _), (5, _), (7, _)]) [0, 1, 4, 5, 6, 7, 8] rfl ?_
              first
              | exact absurd c_137 (by decide)
              | exact absurd rfl c_137
              | exact absurd c_142 (by decide)
              | exact absurd rfl c_142
              | (have e9 := ih (n + 1) (by omega); rw [ab_hits_t c_72 c_87 c_110 c_125] at e9; exact e9)
              | (have e9 := ih (n + 1) (by omega); rw [ab_hits_f (by first | exact Or.inl c_72 | exact Or.inr (Or.inl c_87) | exact Or.inr (Or.inr (Or.inl c_110)) | exact Or.inr (Or.inr (Or.inr c_125)))] at e9; exact e9)
        · refine v_aload_n dX12_changed_113 rfl 3 rfl ?_
          refine v_getf 9 (ci := 10) (C := RX12) (T := TX12) (N := 13) rfl iwX12_changed_X12 (Nat.le_of_ble_eq_true rfl) (by decide +kernel) dX12_changed_114 (by repeat (first | (with_reducible refine sv_us.trans ?_; exact rfl) | with_reducible assumption | with_reducible refine (sv_un (by omega)).trans ?_)) rfl ?_
          refine v_iload dX12_changed_117 1 rfl ?_
          refine v_iconst (v := 3) dX12_changed_119 (by decide) ?_
          refine v_callV (M' := mX10_value) (n := 2) (As := [_, _]) (ci := 8) (r := (RX10, TX10, 7)) gX12_changed_X10_value rfl (by decide +kernel) ⟨(Nat.le_of_ble_eq_true rfl), (Nat.le_of_ble_eq_true rfl)⟩ rfl rfl dX12_changed_120 rfl ⟨(Nat.le_of_ble_eq_true rfl), (Nat.le_of_ble_eq_true rfl)⟩ (Nat.le_of_ble_eq_true rfl) (by repeat (first | (with_reducible refine sv_us.trans ?_; exact rfl) | with_reducible assumption | with_reducible refine (sv_un (by omega)).trans ?_)) rfl (c_late_value G _ _ la nl n 3 lr hla (by omega) (by omega)) (fun v h1 z1 hq => ?_)
          obtain ⟨rfl, rfl, rfl⟩ := hq
          refine v_lload_n dX12_changed_123 rfl 5 rfl ?_
          refine v_lcmp_ge (tgt := 132) dX12_changed_124 dX12_changed_125 (by decide) (fun c_125 => ?_) (fun c_125 => ?_)
          · refine v_iconst (v := 0) dX12_changed_132 (by decide) ?_
            refine v_istore (L' := [(12, _), (11, _), (10, _), (9, _), (0, _), (1, _), (3, _), (5, _), (7, _)]) dX12_changed_133 (Nat.le_of_ble_eq_true rfl) rfl ?_
            refine v_iload dX12_changed_135 1 rfl ?_
            refine v_if_ne (tgt := 148) dX12_changed_137 (by decide) (fun c_137 => ?_) (fun c_137 => ?_)
            · refine v_iinc (j := 2) (L' := [(10, _), (12, _), (11, _), (9, _), (0, _), (1, _), (3, _), (5, _), (7, _)]) (v := nI (n + 1)) dX12_changed_148 rfl (nI_1 _) (Nat.le_of_ble_eq_true rfl) rfl ?_
              refine v_goto (tgt := 47) dX12_changed_151 (by decide) ?_
              refine v_sub (L' := [(10, _), (9, _), (0, _), (1, _), (3, _), (5, _), (7, _)]) [0, 3, 4, 5, 6, 7, 8] rfl ?_
              first
              | exact absurd c_137 (by decide)
              | exact absurd rfl c_137
              | exact absurd c_142 (by decide)
              | exact absurd rfl c_142
              | (have e9 := ih (n + 1) (by omega); rw [ab_hits_t c_72 c_87 c_110 c_125] at e9; exact e9)
              | (have e9 := ih (n + 1) (by omega); rw [ab_hits_f (by first | exact Or.inl c_72 | exact Or.inr (Or.inl c_87) | exact Or.inr (Or.inr (Or.inl c_110)) | exact Or.inr (Or.inr (Or.inr c_125)))] at e9; exact e9)
            · refine v_iload dX12_changed_140 0 rfl ?_
              refine v_if_ne (tgt := 148) dX12_changed_142 (by decide) (fun c_142 => ?_) (fun c_142 => ?_)
              · refine v_iinc (j := 2) (L' := [(10, _), (12, _), (11, _), (9, _), (0, _), (1, _), (3, _), (5, _), (7, _)]) (v := nI (n + 1)) dX12_changed_148 rfl (nI_1 _) (Nat.le_of_ble_eq_true rfl) rfl ?_
                refine v_goto (tgt := 47) dX12_changed_151 (by decide) ?_
                refine v_sub (L' := [(10, _), (9, _), (0, _), (1, _), (3, _), (5, _), (7, _)]) [0, 3, 4, 5, 6, 7, 8] rfl ?_
                first
                | exact absurd c_137 (by decide)
                | exact absurd rfl c_137
                | exact absurd c_142 (by decide)
                | exact absurd rfl c_142
                | (have e9 := ih (n + 1) (by omega); rw [ab_hits_t c_72 c_87 c_110 c_125] at e9; exact e9)
                | (have e9 := ih (n + 1) (by omega); rw [ab_hits_f (by first | exact Or.inl c_72 | exact Or.inr (Or.inl c_87) | exact Or.inr (Or.inr (Or.inl c_110)) | exact Or.inr (Or.inr (Or.inr c_125)))] at e9; exact e9)
              · refine v_iinc (j := 3) (L' := [(9, _), (12, _), (11, _), (10, _), (0, _), (1, _), (3, _), (5, _), (7, _)]) (v := nI (ab_hits lr x0 y0 x1 y1 n + 1)) dX12_changed_145 rfl (nI_1 _) (Nat.le_of_ble_eq_true rfl) rfl ?_
                refine v_iinc (j := 3) (L' := [(10, _), (9, _), (12, _), (11, _), (0, _), (1, _), (3, _), (5, _), (7, _)]) (v := nI (n + 1)) dX12_changed_148 rfl (nI_1 _) (Nat.le_of_ble_eq_true rfl) rfl ?_
                refine v_goto (tgt := 47) dX12_changed_151 (by decide) ?_
                refine v_sub (L' := [(10, _), (9, _), (0, _), (1, _), (3, _), (5, _), (7, _)]) [0, 1, 4, 5, 6, 7, 8] rfl ?_
                first
                | exact absurd c_137 (by decide)
                | exact absurd rfl c_137
                | exact absurd c_142 (by decide)
                | exact absurd rfl c_142
                | (have e9 := ih (n + 1) (by omega); rw [ab_hits_t c_72 c_87 c_110 c_125] at e9; exact e9)
                | (have e9 := ih (n + 1) (by omega); rw [ab_hits_f (by first | exact Or.inl c_72 | exact Or.inr (Or.inl c_87) | exact Or.inr (Or.inr (Or.inl c_110)) | exact Or.inr (Or.inr (Or.inr c_125)))] at e9; exact e9)
          · refine v_iconst (v := 1) dX12_changed_128 (by decide) ?_
            refine v_goto (tgt := 133) dX12_changed_129 (by decide) ?_
            refine v_istore (L' := [(12, _), (11, _), (10, _), (9, _), (0, _), (1, _), (3, _), (5, _), (7, _)]) dX12_changed_133 (Nat.le_of_ble_eq_true rfl) rfl ?_
            refine v_iload dX12_changed_135 1 rfl ?_
            refine v_if_ne (tgt := 148) dX12_changed_137 (by decide) (fun c_137 => ?_) (fun c_137 => ?_)
            · refine v_iinc (j := 2) (L' := [(10, _), (12, _), (11, _), (9, _), (0, _), (1, _), (3, _), (5, _), (7, _)]) (v := nI (n + 1)) dX12_changed_148 rfl (nI_1 _) (Nat.le_of_ble_eq_true rfl) rfl ?_
              refine v_goto (tgt := 47) dX12_changed_151 (by decide) ?_
              refine v_sub (L' := [(10, _), (9, _), (0, _), (1, _), (3, _), (5, _), (7, _)]) [0, 3, 4, 5, 6, 7, 8] rfl ?_
              first
              | exact absurd c_137 (by decide)
              | exact absurd rfl c_137
              | exact absurd c_142 (by decide)
              | exact absurd rfl c_142
              | (have e9 := ih (n + 1) (by omega); rw [ab_hits_t c_72 c_87 c_110 c_125] at e9; exact e9)
              | (have e9 := ih (n + 1) (by omega); rw [ab_hits_f (by first | exact Or.inl c_72 | exact Or.inr (Or.inl c_87) | exact Or.inr (Or.inr (Or.inl c_110)) | exact Or.inr (Or.inr (Or.inr c_125)))] at e9; exact e9)
            · refine v_iload dX12_changed_140 0 rfl ?_
              refine v_if_ne (tgt := 148) dX12_changed_142 (by decide) (fun c_142 => ?_) (fun c_142 => ?_)
              · refine v_iinc (j := 2) (L' := [(10, _), (12, _), (11, _), (9, _), (0, _), (1, _), (3, _), (5, _), (7, _)]) (v := nI (n + 1)) dX12_changed_148 rfl (nI_1 _) (Nat.le_of_ble_eq_true rfl) rfl ?_
                refine v_goto (tgt := 47) dX12_changed_151 (by decide) ?_
                refine v_sub (L' := [(10, _), (9, _), (0, _), (1, _), (3, _), (5, _), (7, _)]) [0, 3, 4, 5, 6, 7, 8] rfl ?_
                first
                | exact absurd c_137 (by decide)
                | exact absurd rfl c_137
                | exact absurd c_142 (by decide)
                | exact absurd rfl c_142
                | (have e9 := ih (n + 1) (by omega); rw [ab_hits_t c_72 c_87 c_110 c_125] at e9; exact e9)
                | (have e9 := ih (n + 1) (by omega); rw [ab_hits_f (by first | exact Or.inl c_72 | exact Or.inr (Or.inl c_87) | exact Or.inr (Or.inr (Or.inl c_110)) | exact Or.inr (Or.inr (Or.inr c_125)))] at e9; exact e9)
              · refine v_iinc (j := 3) (L' := [(9, _), (12, _), (11, _), (10, _), (0, _), (1, _), (3, _), (5, _), (7, _)]) (v := nI (ab_hits lr x0 y0 x1 y1 n + 1)) dX12_changed_145 rfl (nI_1 _) (Nat.le_of_ble_eq_true rfl) rfl ?_
                refine v_iinc (j := 3) (L' := [(10, _), (9, _), (12, _), (11, _), (0, _), (1, _), (3, _), (5, _), (7, _)]) (v := nI (n + 1)) dX12_changed_148 rfl (nI_1 _) (Nat.le_of_ble_eq_true rfl) rfl ?_
                refine v_goto (tgt := 47) dX12_changed_151 (by decide) ?_
                refine v_sub (L' := [(10, _), (9, _), (0, _), (1, _), (3, _), (5, _), (7, _)]) [0, 1, 4, 5, 6, 7, 8] rfl ?_
                first
                | exact absurd c_137 (by decide)
                | exact absurd rfl c_137
                | exact absurd c_142 (by decide)
                | exact absurd rfl c_142
                | (have e9 := ih (n + 1) (by omega); rw [ab_hits_t c_72 c_87 c_110 c_125] at e9; exact e9)
                | (have e9 := ih (n + 1) (by omega); rw [ab_hits_f (by first | exact Or.inl c_72 | exact Or.inr (Or.inl c_87) | exact Or.inr (Or.inr (Or.inl c_110)) | exact Or.inr (Or.inr (Or.inr c_125)))] at e9; exact e9)
      · refine v_aload_n dX12_changed_75 rfl 2 rfl ?_
        refine v_getf 9 (ci := 10) (C := RX12) (T := TX12) (N := 13) rfl iwX12_changed_X12 (Nat.le_of_ble_eq_true rfl) (by decide +kernel) dX12_changed_76 (by repeat (first | (with_reducible refine sv_us.trans ?_; exact rfl) | with_reducible assumption | with_reducible refine (sv_un (by omega)).trans ?_)) rfl ?_
        refine v_iload dX12_changed_79 0 rfl ?_
        refine v_iconst (v := 2) dX12_changed_81 (by decide) ?_
        refine v_callV (M' := mX10_value) (n := 2) (As := [_, _]) (ci := 8) (r := (RX10, TX10, 7)) gX12_changed_X10_value rfl (by decide +kernel) ⟨(Nat.le_of_ble_eq_true rfl), (Nat.le_of_ble_eq_true rfl)⟩ rfl rfl dX12_changed_82 rfl ⟨(Nat.le_of_ble_eq_true rfl), (Nat.le_of_ble_eq_true rfl)⟩ (Nat.le_of_ble_eq_true rfl) (by repeat (first | (with_reducible refine sv_us.trans ?_; exact rfl) | with_reducible assumption | with_reducible refine (sv_un (by omega)).trans ?_)) rfl (c_late_value G _ _ la nl n 2 lr hla (by omega) (by omega)) (fun v h1 z1 hq => ?_)
        obtain ⟨rfl, rfl, rfl⟩ := hq
        refine v_lload_n dX12_changed_85 rfl 3 rfl ?_
        refine v_lcmp_ge (tgt := 94) dX12_changed_86 dX12_changed_87 (by decide) (fun c_87 => ?_) (fun c_87 => ?_)
        · refine v_iconst (v := 0) dX12_changed_94 (by decide) ?_
          refine v_istore (L' := [(11, _), (10, _), (9, _), (0, _), (1, _), (3, _), (5, _), (7, _)]) dX12_changed_95 (Nat.le_of_ble_eq_true rfl) rfl ?_
          refine v_aload_n dX12_changed_97 rfl 3 rfl ?_
          refine v_getf 9 (ci := 10) (C := RX12) (T := TX12) (N := 13) rfl iwX12_changed_X12 (Nat.le_of_ble_eq_true rfl) (by decide +kernel) dX12_changed_98 (by repeat (first | (with_reducible refine sv_us.trans ?_; exact rfl) | with_reducible assumption | with_reducible refine (sv_un (by omega)).trans ?_)) rfl ?_
          refine v_iload dX12_changed_101 1 rfl ?_
          refine v_iconst (v := 1) dX12_changed_103 (by decide) ?_
          refine v_callV (M' := mX10_value) (n := 2) (As := [_, _]) (ci := 8) (r := (RX10, TX10, 7)) gX12_changed_X10_value rfl (by decide +kernel) ⟨(Nat.le_of_ble_eq_true rfl), (Nat.le_of_ble_eq_true rfl)⟩ rfl rfl dX12_changed_104 rfl ⟨(Nat.le_of_ble_eq_true rfl), (Nat.le_of_ble_eq_true rfl)⟩ (Nat.le_of_ble_eq_true rfl) (by repeat (first | (with_reducible refine sv_us.trans ?_; exact rfl) | with_reducible assumption | with_reducible refine (sv_un (by omega)).trans ?_)) rfl (c_late_value G _ _ la nl n 1 lr hla (by omega) (by omega)) (fun v h1 z1 hq => ?_)
          obtain ⟨rfl, rfl, rfl⟩ := hq
          refine v_lload dX12_changed_107 7 rfl ?_
          refine v_lcmp_gt (tgt := 128) dX12_changed_109 dX12_changed_110 (by decide) (fun c_110 => ?_) (fun c_110 => ?_)
          · refine v_iconst (v := 1) dX12_changed_128 (by decide) ?_
            refine v_goto (tgt := 133) dX12_changed_129 (by decide) ?_
            refine v_istore (L' := [(12, _), (11, _), (10, _), (9, _), (0, _), (1, _), (3, _), (5, _), (7, _)]) dX12_changed_133 (Nat.le_of_ble_eq_true rfl) rfl ?_
            refine v_iload dX12_changed_135 1 rfl ?_
            refine v_if_ne (tgt := 148) dX12_changed_137 (by decide) (fun c_137 => ?_) (fun c_137 => ?_)
            · refine v_iinc (j := 2) (L' := [(10, _), (12, _), (11, _), (9, _), (0, _), (1, _), (3, _), (5, _), (7, _)]) (v := nI (n + 1)) dX12_changed_148 rfl (nI_1 _) (Nat.le_of_ble_eq_true rfl) rfl ?_
              refine v_goto (tgt := 47) dX12_changed_151 (by decide) ?_
              refine v_sub (L' := [(10, _), (9, _), (0, _), (1, _), (3, _), (5, _), (7, _)]) [0, 3, 4, 5, 6, 7, 8] rfl ?_
              first
              | exact absurd c_137 (by decide)
              | exact absurd rfl c_137
              | exact absurd c_142 (by decide)
              | exact absurd rfl c_142
              | (have e9 := ih (n + 1) (by omega); rw [ab_hits_t c_72 c_87 c_110 c_125] at e9; exact e9)
              | (have e9 := ih (n + 1) (by omega); rw [ab_hits_f (by first | exact Or.inl c_72 | exact Or.inr (Or.inl c_87) | exact Or.inr (Or.inr (Or.inl c_110)) | exact Or.inr (Or.inr (Or.inr c_125)))] at e9; exact e9)
            · refine v_iload dX12_changed_140 0 rfl ?_
              refine v_if_ne (tgt := 148) dX12_changed_142 (by decide) (fun c_142 => ?_) (fun c_142 => ?_)
              · refine v_iinc (j := 2) (L' := [(10, _), (12, _), (11, _), (9, _), (0, _), (1, _), (3, _), (5, _), (7, _)]) (v := nI (n + 1)) dX12_changed_148 rfl (nI_1 _) (Nat.le_of_ble_eq_true rfl) rfl ?_
                refine v_goto (tgt := 47) dX12_changed_151 (by decide) ?_
                refine v_sub (L' := [(10, _), (9, _), (0, _), (1, _), (3, _), (5, _), (7, _)]) [0, 3, 4, 5, 6, 7, 8] rfl ?_
                first
                | exact absurd c_137 (by decide)
                | exact absurd rfl c_137
                | exact absurd c_142 (by decide)
                | exact absurd rfl c_142
                | (have e9 := ih (n + 1) (by omega); rw [ab_hits_t c_72 c_87 c_110 c_125] at e9; exact e9)
                | (have e9 := ih (n + 1) (by omega); rw [ab_hits_f (by first | exact Or.inl c_72 | exact Or.inr (Or.inl c_87) | exact Or.inr (Or.inr (Or.inl c_110)) | exact Or.inr (Or.inr (Or.inr c_125)))] at e9; exact e9)
              · refine v_iinc (j := 3) (L' := [(9, _), (12, _), (11, _), (10, _), (0, _), (1, _), (3, _), (5, _), (7, _)]) (v := nI (ab_hits lr x0 y0 x1 y1 n + 1)) dX12_changed_145 rfl (nI_1 _) (Nat.le_of_ble_eq_true rfl) rfl ?_
                refine v_iinc (j := 3) (L' := [(10, _), (9, _), (12, _), (11, _), (0, _), (1, _), (3, _), (5, _), (7, _)]) (v := nI (n + 1)) dX12_changed_148 rfl (nI_1 _) (Nat.le_of_ble_eq_true rfl) rfl ?_
                refine v_goto (tgt := 47) dX12_changed_151 (by decide) ?_
                refine v_sub (L' := [(10, _), (9, _), (0, _), (1, _), (3, _), (5, _), (7, _)]) [0, 1, 4, 5, 6, 7, 8] rfl ?_
                first
                | exact absurd c_137 (by decide)
                | exact absurd rfl c_137
                | exact absurd c_142 (by decide)
                | exact absurd rfl c_142
                | (have e9 := ih (n + 1) (by omega); rw [ab_hits_t c_72 c_87 c_110 c_125] at e9; exact e9)
                | (have e9 := ih (n + 1) (by omega); rw [ab_hits_f (by first | exact Or.inl c_72 | exact Or.inr (Or.inl c_87) | exact Or.inr (Or.inr (Or.inl c_110)) | exact Or.inr (Or.inr (Or.inr c_125)))] at e9; exact e9)
          · refine v_aload_n dX12_changed_113 rfl 3 rfl ?_
            refine v_getf 9 (ci := 10) (C := RX12) (T := TX12) (N := 13) rfl iwX12_changed_X12 (Nat.le_of_ble_eq_true rfl) (by decide +kernel) dX12_changed_114 (by repeat (first | (with_reducible refine sv_us.trans ?_; exact rfl) | with_reducible assumption | with_reducible refine (sv_un (by omega)).trans ?_)) rfl ?_
            refine v_iload dX12_changed_117 1 rfl ?_
            refine v_iconst (v := 3) dX12_changed_119 (by decide) ?_
            refine v_callV (M' := mX10_value) (n := 2) (As := [_, _]) (ci := 8) (r := (RX10, TX10, 7)) gX12_changed_X10_value rfl (by decide +kernel) ⟨(Nat.le_of_ble_eq_true rfl), (Nat.le_of_ble_eq_true rfl)⟩ rfl rfl dX12_changed_120 rfl ⟨(Nat.le_of_ble_eq_true rfl), (Nat.le_of_ble_eq_true rfl)⟩ (Nat.le_of_ble_eq_true rfl) (by repeat (first | (with_reducible refine sv_us.trans ?_; exact rfl) | with_reducible assumption | with_reducible refine (sv_un (by omega)).trans ?_)) rfl (c_late_value G _ _ la nl n 3 lr hla (by omega) (by omega)) (fun v h1 z1 hq => ?_)
            obtain ⟨rfl, rfl, rfl⟩ := hq
            refine v_lload_n dX12_changed_123 rfl 5 rfl ?_
            refine v_lcmp_ge (tgt := 132) dX12_changed_124 dX12_changed_125 (by decide) (fun c_125 => ?_) (fun c_125 => ?_)
            · refine v_iconst (v := 0) dX12_changed_132 (by decide) ?_
              refine v_istore (L' := [(12, _), (11, _), (10, _), (9, _), (0, _), (1, _), (3, _), (5, _), (7, _)]) dX12_changed_133 (Nat.le_of_ble_eq_true rfl) rfl ?_
              refine v_iload dX12_changed_135 1 rfl ?_
              refine v_if_ne (tgt := 148) dX12_changed_137 (by decide) (fun c_137 => ?_) (fun c_137 => ?_)
              · refine v_iinc (j := 2) (L' := [(10, _), (12, _), (11, _), (9, _), (0, _), (1, _), (3, _), (5, _), (7, _)]) (v := nI (n + 1)) dX12_changed_148 rfl (nI_1 _) (Nat.le_of_ble_eq_true rfl) rfl ?_
                refine v_goto (tgt := 47) dX12_changed_151 (by decide) ?_
                refine v_sub (L' := [(10, _), (9, _), (0, _), (1, _), (3, _), (5, _), (7, _)]) [0, 3, 4, 5, 6, 7, 8] rfl ?_
                first
                | exact absurd c_137 (by decide)
                | exact absurd rfl c_137
                | exact absurd c_142 (by decide)
                | exact absurd rfl c_142
                | (have e9 := ih (n + 1) (by omega); rw [ab_hits_t c_72 c_87 c_110 c_125] at e9; exact e9)
                | (have e9 := ih (n + 1) (by omega); rw [ab_hits_f (by first | exact Or.inl c_72 | exact Or.inr (Or.inl c_87) | exact Or.inr (Or.inr (Or.inl c_110)) | exact Or.inr (Or.inr (Or.inr c_125)))] at e9; exact e9)
              · refine v_iload dX12_changed_140 0 rfl ?_
                refine v_if_ne (tgt := 148) dX12_changed_142 (by decide) (fun c_142 => ?_) (fun c_142 => ?_)
                · refine v_iinc (j := 2) (L' := [(10, _), (12, _), (11, _), (9, _), (0, _), (1, _), (3, _), (5, _), (7, _)]) (v := nI (n + 1)) dX12_changed_148 rfl (nI_1 _) (Nat.le_of_ble_eq_true rfl) rfl ?_
                  refine v_goto (tgt := 47) dX12_changed_151 (by decide) ?_
                  refine v_sub (L' := [(10, _), (9, _), (0, _), (1, _), (3, _), (5, _), (7, _)]) [0, 3, 4, 5, 6, 7, 8] rfl ?_
                  first
                  | exact absurd c_137 (by decide)
                  | exact absurd rfl c_137
                  | exact absurd c_142 (by decide)
                  | exact absurd rfl c_142
                  | (have e9 := ih (n + 1) (by omega); rw [ab_hits_t c_72 c_87 c_110 c_125] at e9; exact e9)
                  | (have e9 := ih (n + 1) (by omega); rw [ab_hits_f (by first | exact Or.inl c_72 | exact Or.inr (Or.inl c_87) | exact Or.inr (Or.inr (Or.inl c_110)) | exact Or.inr (Or.inr (Or.inr c_125)))] at e9; exact e9)
                · refine v_iinc (j := 3) (L' := [(9, _), (12, _), (11, _), (10, _), (0, _), (1, _), (3, _), (5, _), (7, _)]) (v := nI (ab_hits lr x0 y0 x1 y1 n + 1)) dX12_changed_145 rfl (nI_1 _) (Nat.le_of_ble_eq_true rfl) rfl ?_
                  refine v_iinc (j := 3) (L' := [(10, _), (9, _), (12, _), (11, _), (0, _), (1, _), (3, _), (5, _), (7, _)]) (v := nI (n + 1)) dX12_changed_148 rfl (nI_1 _) (Nat.le_of_ble_eq_true rfl) rfl ?_
                  refine v_goto (tgt := 47) dX12_changed_151 (by decide) ?_
                  refine v_sub (L' := [(10, _), (9, _), (0, _), (1, _), (3, _), (5, _), (7, _)]) [0, 1, 4, 5, 6, 7, 8] rfl ?_
                  first
                  | exact absurd c_137 (by decide)
                  | exact absurd rfl c_137
                  | exact absurd c_142 (by decide)
                  | exact absurd rfl c_142
                  | (have e9 := ih (n + 1) (by omega); rw [ab_hits_t c_72 c_87 c_110 c_125] at e9; exact e9)
                  | (have e9 := ih (n + 1) (by omega); rw [ab_hits_f (by first | exact Or.inl c_72 | exact Or.inr (Or.inl c_87) | exact Or.inr (Or.inr (Or.inl c_110)) | exact Or.inr (Or.inr (Or.inr c_125)))] at e9; exact e9)
            · refine v_iconst (v := 1) dX12_changed_128 (by decide) ?_
              refine v_goto (tgt := 133) dX12_changed_129 (by decide) ?_
              refine v_istore (L' := [(12, _), (11, _), (10, _), (9, _), (0, _), (1, _), (3, _), (5, _), (7, _)]) dX12_changed_133 (Nat.le_of_ble_eq_true rfl) rfl ?_
              refine v_iload dX12_changed_135 1 rfl ?_
              refine v_if_ne (tgt := 148) dX12_changed_137 (by decide) (fun c_137 => ?_) (fun c_137 => ?_)
              · refine v_iinc (j := 2) (L' := [(10, _), (12, _), (11, _), (9, _), (0, _), (1, _), (3, _), (5, _), (7, _)]) (v := nI (n + 1)) dX12_changed_148 rfl (nI_1 _) (Nat.le_of_ble_eq_true rfl) rfl ?_
                refine v_goto (tgt := 47) dX12_changed_151 (by decide) ?_
                refine v_sub (L' := [(10, _), (9, _), (0, _), (1, _), (3, _), (5, _), (7, _)]) [0, 3, 4, 5, 6, 7, 8] rfl ?_
                first
                | exact absurd c_137 (by decide)
                | exact absurd rfl c_137
                | exact absurd c_142 (by decide)
                | exact absurd rfl c_142
                | (have e9 := ih (n + 1) (by omega); rw [ab_hits_t c_72 c_87 c_110 c_125] at e9; exact e9)
                | (have e9 := ih (n + 1) (by omega); rw [ab_hits_f (by first | exact Or.inl c_72 | exact Or.inr (Or.inl c_87) | exact Or.inr (Or.inr (Or.inl c_110)) | exact Or.inr (Or.inr (Or.inr c_125)))] at e9; exact e9)
              · refine v_iload dX12_changed_140 0 rfl ?_
                refine v_if_ne (tgt := 148) dX12_changed_142 (by decide) (fun c_142 => ?_) (fun c_142 => ?_)
                · refine v_iinc (j := 2) (L' := [(10, _), (12, _), (11, _), (9, _), (0, _), (1, _), (3, _), (5, _), (7, _)]) (v := nI (n + 1)) dX12_changed_148 rfl (nI_1 _) (Nat.le_of_ble_eq_true rfl) rfl ?_
                  refine v_goto (tgt := 47) dX12_changed_151 (by decide) ?_
                  refine v_sub (L' := [(10, _), (9, _), (0, _), (1, _), (3, _), (5, _), (7, _)]) [0, 3, 4, 5, 6, 7, 8] rfl ?_
                  first
                  | exact absurd c_137 (by decide)
                  | exact absurd rfl c_137
                  | exact absurd c_142 (by decide)
                  | exact absurd rfl c_142
                  | (have e9 := ih (n + 1) (by omega); rw [ab_hits_t c_72 c_87 c_110 c_125] at e9; exact e9)
                  | (have e9 := ih (n + 1) (by omega); rw [ab_hits_f (by first | exact Or.inl c_72 | exact Or.inr (Or.inl c_87) | exact Or.inr (Or.inr (Or.inl c_110)) | exact Or.inr (Or.inr (Or.inr c_125)))] at e9; exact e9)
                · refine v_iinc (j := 3) (L' := [(9, _), (12, _), (11, _), (10, _), (0, _), (1, _), (3, _), (5, _), (7, _)]) (v := nI (ab_hits lr x0 y0 x1 y1 n + 1)) dX12_changed_145 rfl (nI_1 _) (Nat.le_of_ble_eq_true rfl) rfl ?_
                  refine v_iinc (j := 3) (L' := [(10, _), (9, _), (12, _), (11, _), (0, _), (1, _), (3, _), (5, _), (7, _)]) (v := nI (n + 1)) dX12_changed_148 rfl (nI_1 _) (Nat.le_of_ble_eq_true rfl) rfl ?_
                  refine v_goto (tgt := 47) dX12_changed_151 (by decide) ?_
                  refine v_sub (L' := [(10, _), (9, _), (0, _), (1, _), (3, _), (5, _), (7, _)]) [0, 1, 4, 5, 6, 7, 8] rfl ?_
                  first
                  | exact absurd c_137 (by decide)
                  | exact absurd rfl c_137
                  | exact absurd c_142 (by decide)
                  | exact absurd rfl c_142
                  | (have e9 := ih (n + 1) (by omega); rw [ab_hits_t c_72 c_87 c_110 c_125] at e9; exact e9)
                  | (have e9 := ih (n + 1) (by omega); rw [ab_hits_f (by first | exact Or.inl c_72 | exact Or.inr (Or.inl c_87) | exact Or.inr (Or.inr (Or.inl c_110)) | exact Or.inr (Or.inr (Or.inr c_125)))] at e9; exact e9)
        · refine v_iconst (v := 1) dX12_changed_90 (by decide) ?_
          refine v_goto (tgt := 95) dX12_changed_91 (by decide) ?_
          refine v_istore (L' := [(11, _), (10, _), (9, _), (0, _), (1, _), (3, _), (5, _), (7, _)]) dX12_changed_95 (Nat.le_of_ble_eq_true rfl) rfl ?_
          refine v_aload_n dX12_changed_97 rfl 3 rfl ?_
          refine v_getf 9 (ci := 10) (C := RX12) (T := TX12) (N := 13) rfl iwX12_changed_X12 (Nat.le_of_ble_eq_true rfl) (by decide +kernel) dX12_changed_98 (by repeat (first | (with_reducible refine sv_us.trans ?_; exact rfl) | with_reducible assumption | with_reducible refine (sv_un (by omega)).trans ?_)) rfl ?_
          refine v_iload dX12_changed_101 1 rfl ?_
          refine v_iconst (v := 1) dX12_changed_103 (by decide) ?_
          refine v_callV (M' := mX10_value) (n := 2) (As := [_, _]) (ci := 8) (r := (RX10, TX10, 7)) gX12_changed_X10_value rfl (by decide +kernel) ⟨(Nat.le_of_ble_eq_true rfl), (Nat.le_of_ble_eq_true rfl)⟩ rfl rfl dX12_changed_104 rfl ⟨(Nat.le_of_ble_eq_true rfl), (Nat.le_of_ble_eq_true rfl)⟩ (Nat.le_of_ble_eq_true rfl) (by repeat (first | (with_reducible refine sv_us.trans ?_; exact rfl) | with_reducible assumption | with_reducible refine (sv_un (by omega)).trans ?_)) rfl (c_late_value G _ _ la nl n 1 lr hla (by omega) (by omega)) (fun v h1 z1 hq => ?_)
          obtain ⟨rfl, rfl, rfl⟩ := hq
          refine v_lload dX12_changed_107 7 rfl ?_
          refine v_lcmp_gt (tgt := 128) dX12_changed_109 dX12_changed_110 (by decide) (fun c_110 => ?_) (fun c_110 => ?_)
          · refine v_iconst (v := 1) dX12_changed_128 (by decide) ?_
            refine v_goto (tgt := 133) dX12_changed_129 (by decide) ?_
            refine v_istore (L' := [(12, _), (11, _), (10, _), (9, _), (0, _), (1, _), (3, _), (5, _), (7, _)]) dX12_changed_133 (Nat.le_of_ble_eq_true rfl) rfl ?_
            refine v_iload dX12_changed_135 1 rfl ?_
            refine v_if_ne (tgt := 148) dX12_changed_137 (by decide) (fun c_137 => ?_) (fun c_137 => ?_)
            · refine v_iinc (j := 2) (L' := [(10, _), (12, _), (11, _), (9, _), (0, _), (1, _), (3, _), (5, _), (7, _)]) (v := nI (n + 1)) dX12_changed_148 rfl (nI_1 _) (Nat.le_of_ble_eq_true rfl) rfl ?_
              refine v_goto (tgt := 47) dX12_changed_151 (by decide) ?_
              refine v_sub (L' := [(10, _), (9, _), (0, _), (1, _), (3, _), (5, _), (7, _)]) [0, 3, 4, 5, 6, 7, 8] rfl ?_
              first
              | exact absurd c_137 (by decide)
              | exact absurd rfl c_137
              | exact absurd c_142 (by decide)
              | exact absurd rfl c_142
              | (have e9 := ih (n + 1) (by omega); rw [ab_hits_t c_72 c_87 c_110 c_125] at e9; exact e9)
              | (have e9 := ih (n + 1) (by omega); rw [ab_hits_f (by first | exact Or.inl c_72 | exact Or.inr (Or.inl c_87) | exact Or.inr (Or.inr (Or.inl c_110)) | exact Or.inr (Or.inr (Or.inr c_125)))] at e9; exact e9)
            · refine v_iload dX12_changed_140 0 rfl ?_
              refine v_if_ne (tgt := 148) dX12_changed_142 (by decide) (fun c_142 => ?_) (fun c_142 => ?_)
              · refine v_iinc (j := 2) (L' := [(10, _), (12, _), (11, _), (9, _), (0, _), (1, _), (3, _), (5, _), (7, _)]) (v := nI (n + 1)) dX12_changed_148 rfl (nI_1 _) (Nat.le_of_ble_eq_true rfl) rfl ?_
                refine v_goto (tgt := 47) dX12_changed_151 (by decide) ?_
                refine v_sub (L' := [(10, _), (9, _), (0, _), (1, _), (3, _), (5, _), (7, _)]) [0, 3, 4, 5, 6, 7, 8] rfl ?_
                first
                | exact absurd c_137 (by decide)
                | exact absurd rfl c_137
                | exact absurd c_142 (by decide)
                | exact absurd rfl c_142
                | (have e9 := ih (n + 1) (by omega); rw [ab_hits_t c_72 c_87 c_110 c_125] at e9; exact e9)
                | (have e9 := ih (n + 1) (by omega); rw [ab_hits_f (by first | exact Or.inl c_72 | exact Or.inr (Or.inl c_87) | exact Or.inr (Or.inr (Or.inl c_110)) | exact Or.inr (Or.inr (Or.inr c_125)))] at e9; exact e9)
              · refine v_iinc (j := 3) (L' := [(9, _), (12, _), (11, _), (10, _), (0, _), (1, _), (3, _), (5, _), (7, _)]) (v := nI (ab_hits lr x0 y0 x1 y1 n + 1)) dX12_changed_145 rfl (nI_1 _) (Nat.le_of_ble_eq_true rfl) rfl ?_
                refine v_iinc (j := 3) (L' := [(10, _), (9, _), (12, _), (11, _), (0, _), (1, _), (3, _), (5, _), (7, _)]) (v := nI (n + 1)) dX12_changed_148 rfl (nI_1 _) (Nat.le_of_ble_eq_true rfl) rfl ?_
                refine v_goto (tgt := 47) dX12_changed_151 (by decide) ?_
                refine v_sub (L' := [(10, _), (9, _), (0, _), (1, _), (3, _), (5, _), (7, _)]) [0, 1, 4, 5, 6, 7, 8] rfl ?_
                first
                | exact absurd c_137 (by decide)
                | exact absurd rfl c_137
                | exact absurd c_142 (by decide)
                | exact absurd rfl c_142
                | (have e9 := ih (n + 1) (by omega); rw [ab_hits_t c_72 c_87 c_110 c_125] at e9; exact e9)
                | (have e9 := ih (n + 1) (by omega); rw [ab_hits_f (by first | exact Or.inl c_72 | exact Or.inr (Or.inl c_87) | exact Or.inr (Or.inr (Or.inl c_110)) | exact Or.inr (Or.inr (Or.inr c_125)))] at e9; exact e9)
          · refine v_aload_n dX12_changed_113 rfl 3 rfl ?_
            refine v_getf 9 (ci := 10) (C := RX12) (T := TX12) (N := 13) rfl iwX12_changed_X12 (Nat.le_of_ble_eq_true rfl) (by decide +kernel) dX12_changed_114 (by repeat (first | (with_reducible refine sv_us.trans ?_; exact rfl) | with_reducible assumption | with_reducible refine (sv_un (by omega)).trans ?_)) rfl ?_
            refine v_iload dX12_changed_117 1 rfl ?_
            refine v_iconst (v := 3) dX12_changed_119 (by decide) ?_
            refine v_callV (M' := mX10_value) (n := 2) (As := [_, _]) (ci := 8) (r := (RX10, TX10, 7)) gX12_changed_X10_value rfl (by decide +kernel) ⟨(Nat.le_of_ble_eq_true rfl), (Nat.le_of_ble_eq_true rfl)⟩ rfl rfl dX12_changed_120 rfl ⟨(Nat.le_of_ble_eq_true rfl), (Nat.le_of_ble_eq_true rfl)⟩ (Nat.le_of_ble_eq_true rfl) (by repeat (first | (with_reducible refine sv_us.trans ?_; exact rfl) | with_reducible assumption | with_reducible refine (sv_un (by omega)).trans ?_)) rfl (c_late_value G _ _ la nl n 3 lr hla (by omega) (by omega)) (fun v h1 z1 hq => ?_)
            obtain ⟨rfl, rfl, rfl⟩ := hq
            refine v_lload_n dX12_changed_123 rfl 5 rfl ?_
            refine v_lcmp_ge (tgt := 132) dX12_changed_124 dX12_changed_125 (by decide) (fun c_125 => ?_) (fun c_125 => ?_)
            · refine v_iconst (v := 0) dX12_changed_132 (by decide) ?_
              refine v_istore (L' := [(12, _), (11, _), (10, _), (9, _), (0, _), (1, _), (3, _), (5, _), (7, _)]) dX12_changed_133 (Nat.le_of_ble_eq_true rfl) rfl ?_
              refine v_iload dX12_changed_135 1 rfl ?_
              refine v_if_ne (tgt := 148) dX12_changed_137 (by decide) (fun c_137 => ?_) (fun c_137 => ?_)
              · refine v_iinc (j := 2) (L' := [(10, _), (12, _), (11, _), (9, _), (0, _), (1, _), (3, _), (5, _), (7, _)]) (v := nI (n + 1)) dX12_changed_148 rfl (nI_1 _) (Nat.le_of_ble_eq_true rfl) rfl ?_
                refine v_goto (tgt := 47) dX12_changed_151 (by decide) ?_
                refine v_sub (L' := [(10, _), (9, _), (0, _), (1, _), (3, _), (5, _), (7, _)]) [0, 3, 4, 5, 6, 7, 8] rfl ?_
                first
                | exact absurd c_137 (by decide)
                | exact absurd rfl c_137
                | exact absurd c_142 (by decide)
                | exact absurd rfl c_142
                | (have e9 := ih (n + 1) (by omega); rw [ab_hits_t c_72 c_87 c_110 c_125] at e9; exact e9)
                | (have e9 := ih (n + 1) (by omega); rw [ab_hits_f (by first | exact Or.inl c_72 | exact Or.inr (Or.inl c_87) | exact Or.inr (Or.inr (Or.inl c_110)) | exact Or.inr (Or.inr (Or.inr c_125)))] at e9; exact e9)
              · refine v_iload dX12_changed_140 0 rfl ?_
                refine v_if_ne (tgt := 148) dX12_changed_142 (by decide) (fun c_142 => ?_) (fun c_142 => ?_)
                · refine v_iinc (j := 2) (L' := [(10, _), (12, _), (11, _), (9, _), (0, _), (1, _), (3, _), (5, _), (7, _)]) (v := nI (n + 1)) dX12_changed_148 rfl (nI_1 _) (Nat.le_of_ble_eq_true rfl) rfl ?_
                  refine v_goto (tgt := 47) dX12_changed_151 (by decide) ?_
                  refine v_sub (L' := [(10, _), (9, _), (0, _), (1, _), (3, _), (5, _), (7, _)]) [0, 3, 4, 5, 6, 7, 8] rfl ?_
                  first
                  | exact absurd c_137 (by decide)
                  | exact absurd rfl c_137
                  | exact absurd c_142 (by decide)
                  | exact absurd rfl c_142
                  | (have e9 := ih (n + 1) (by omega); rw [ab_hits_t c_72 c_87 c_110 c_125] at e9; exact e9)
                  | (have e9 := ih (n + 1) (by omega); rw [ab_hits_f (by first | exact Or.inl c_72 | exact Or.inr (Or.inl c_87) | exact Or.inr (Or.inr (Or.inl c_110)) | exact Or.inr (Or.inr (Or.inr c_125)))] at e9; exact e9)
                · refine v_iinc (j := 3) (L' := [(9, _), (12, _), (11, _), (10, _), (0, _), (1, _), (3, _), (5, _), (7, _)]) (v := nI (ab_hits lr x0 y0 x1 y1 n + 1)) dX12_changed_145 rfl (nI_1 _) (Nat.le_of_ble_eq_true rfl) rfl ?_
                  refine v_iinc (j := 3) (L' := [(10, _), (9, _), (12, _), (11, _), (0, _), (1, _), (3, _), (5, _), (7, _)]) (v := nI (n + 1)) dX12_changed_148 rfl (nI_1 _) (Nat.le_of_ble_eq_true rfl) rfl ?_
                  refine v_goto (tgt := 47) dX12_changed_151 (by decide) ?_
                  refine v_sub (L' := [(10, _), (9, _), (0, _), (1, _), (3, _), (5, _), (7, _)]) [0, 1, 4, 5, 6, 7, 8] rfl ?_
                  first
                  | exact absurd c_137 (by decide)
                  | exact absurd rfl c_137
                  | exact absurd c_142 (by decide)
                  | exact absurd rfl c_142
                  | (have e9 := ih (n + 1) (by omega); rw [ab_hits_t c_72 c_87 c_110 c_125] at e9; exact e9)
                  | (have e9 := ih (n + 1) (by omega); rw [ab_hits_f (by first | exact Or.inl c_72 | exact Or.inr (Or.inl c_87) | exact Or.inr (Or.inr (Or.inl c_110)) | exact Or.inr (Or.inr (Or.inr c_125)))] at e9; exact e9)
            · refine v_iconst (v := 1) dX12_changed_128 (by decide) ?_
              refine v_goto (tgt := 133) dX12_changed_129 (by decide) ?_
              refine v_istore (L' := [(12, _), (11, _), (10, _), (9, _), (0, _), (1, _), (3, _), (5, _), (7, _)]) dX12_changed_133 (Nat.le_of_ble_eq_true rfl) rfl ?_
              refine v_iload dX12_changed_135 1 rfl ?_
              refine v_if_ne (tgt := 148) dX12_changed_137 (by decide) (fun c_137 => ?_) (fun c_137 => ?_)
              · refine v_iinc (j := 2) (L' := [(10, _), (12, _), (11, _), (9, _), (0, _), (1, _), (3, _), (5, _), (7, _)]) (v := nI (n + 1)) dX12_changed_148 rfl (nI_1 _) (Nat.le_of_ble_eq_true rfl) rfl ?_
                refine v_goto (tgt := 47) dX12_changed_151 (by decide) ?_
                refine v_sub (L' := [(10, _), (9, _), (0, _), (1, _), (3, _), (5, _), (7, _)]) [0, 3, 4, 5, 6, 7, 8] rfl ?_
                first
                | exact absurd c_137 (by decide)
                | exact absurd rfl c_137
                | exact absurd c_142 (by decide)
                | exact absurd rfl c_142
                | (have e9 := ih (n + 1) (by omega); rw [ab_hits_t c_72 c_87 c_110 c_125] at e9; exact e9)
                | (have e9 := ih (n + 1) (by omega); rw [ab_hits_f (by first | exact Or.inl c_72 | exact Or.inr (Or.inl c_87) | exact Or.inr (Or.inr (Or.inl c_110)) | exact Or.inr (Or.inr (Or.inr c_125)))] at e9; exact e9)
              · refine v_iload dX12_changed_140 0 rfl ?_
                refine v_if_ne (tgt := 148) dX12_changed_142 (by decide) (fun c_142 => ?_) (fun c_142 => ?_)
                · refine v_iinc (j := 2) (L' := [(10, _), (12, _), (11, _), (9, _), (0, _), (1, _), (3, _), (5, _), (7, _)]) (v := nI (n + 1)) dX12_changed_148 rfl (nI_1 _) (Nat.le_of_ble_eq_true rfl) rfl ?_
                  refine v_goto (tgt := 47) dX12_changed_151 (by decide) ?_
                  refine v_sub (L' := [(10, _), (9, _), (0, _), (1, _), (3, _), (5, _), (7, _)]) [0, 3, 4, 5, 6, 7, 8] rfl ?_
                  first
                  | exact absurd c_137 (by decide)
                  | exact absurd rfl c_137
                  | exact absurd c_142 (by decide)
                  | exact absurd rfl c_142
                  | (have e9 := ih (n + 1) (by omega); rw [ab_hits_t c_72 c_87 c_110 c_125] at e9; exact e9)
                  | (have e9 := ih (n + 1) (by omega); rw [ab_hits_f (by first | exact Or.inl c_72 | exact Or.inr (Or.inl c_87) | exact Or.inr (Or.inr (Or.inl c_110)) | exact Or.inr (Or.inr (Or.inr c_125)))] at e9; exact e9)
                · refine v_iinc (j := 3) (L' := [(9, _), (12, _), (11, _), (10, _), (0, _), (1, _), (3, _), (5, _), (7, _)]) (v := nI (ab_hits lr x0 y0 x1 y1 n + 1)) dX12_changed_145 rfl (nI_1 _) (Nat.le_of_ble_eq_true rfl) rfl ?_
                  refine v_iinc (j := 3) (L' := [(10, _), (9, _), (12, _), (11, _), (0, _), (1, _), (3, _), (5, _), (7, _)]) (v := nI (n + 1)) dX12_changed_148 rfl (nI_1 _) (Nat.le_of_ble_eq_true rfl) rfl ?_
                  refine v_goto (tgt := 47) dX12_changed_151 (by decide) ?_
                  refine v_sub (L' := [(10, _), (9, _), (0, _), (1, _), (3, _), (5, _), (7, _)]) [0, 1, 4, 5, 6, 7, 8] rfl ?_
                  first
                  | exact absurd c_137 (by decide)
                  | exact absurd rfl c_137
                  | exact absurd c_142 (by decide)
                  | exact absurd rfl c_142
                  | (have e9 := ih (n + 1) (by omega); rw [ab_hits_t c_72 c_87 c_110 c_125] at e9; exact e9)
                  | (have e9 := ih (n + 1) (by omega); rw [ab_hits_f (by first | exact Or.inl c_72 | exact Or.inr (Or.inl c_87) | exact Or.inr (Or.inr (Or.inl c_110)) | exact Or.inr (Or.inr (Or.inr c_125)))] at e9; exact e9)

set_option maxHeartbeats 4000000 in
set_option maxRecDepth 100000 in
theorem c_changed (G : sv_G) (hl0 : G.1.stackTraces = false) (h : sv_h) (z b nl : Nat) (lr : Nat → Int64) (x0 y0 x1 y1 : Int64) (ly tp rd ck wv ru la fo fl lo : Nat) (rc lx lf : Int32) (hb : h b = some (.inr (10, [.ref ly, .ref tp, .ref rd, .ref ck, .ref wv, .ref ru, .int rc, .int lx, .int lf, .ref la, .ref fo, .ref fl, .ref lo]))) (hla : ab_late G h la nl lr) (hlf : ¬ lf = 0) (hx : ¬ x1 < x0) (hy : ¬ y1 < y0) : CX G mX12_changed [.ref b, .long x0, .long y0, .long x1, .long y1] h z (fun v h1 z1 => v = some (.int (nI (ab_hits lr x0 y0 x1 y1 nl))) ∧ h1 = h ∧ z1 = z) (fun _ _ _ => False) := by
  refine CX.of (by decide +kernel) rfl rfl (Nat.le_of_ble_eq_true rfl) ?_
  refine v_aload_n dX12_changed_0 rfl 0 rfl ?_
  refine v_getf 8 (ci := 10) (C := RX12) (T := TX12) (N := 13) rfl iwX12_changed_X12 (Nat.le_of_ble_eq_true rfl) (by decide +kernel) dX12_changed_1 (by repeat (first | (with_reducible refine sv_us.trans ?_; exact rfl) | with_reducible assumption | with_reducible refine (sv_un (by omega)).trans ?_)) rfl ?_
  refine v_if_ne (tgt := 17) dX12_changed_4 (by decide) (fun c_4 => ?_) (fun c_4 => ?_)
  · refine v_lload_n dX12_changed_17 rfl 1 rfl ?_
    refine v_lload dX12_changed_18 3 rfl ?_
    refine v_lcmp_gt (tgt := 31) dX12_changed_20 dX12_changed_21 (by decide) (fun c_21 => ?_) (fun c_21 => ?_)
    · exact absurd c_21 hx
    · refine v_lload_n dX12_changed_24 rfl 2 rfl ?_
      refine v_lload dX12_changed_25 4 rfl ?_
      refine v_lcmp_le (tgt := 41) dX12_changed_27 dX12_changed_28 (by decide) (fun c_28 => ?_) (fun c_28 => ?_)
      · refine v_iconst (v := 0) dX12_changed_41 (by decide) ?_
        refine v_istore (L' := [(9, _), (0, _), (1, _), (3, _), (5, _), (7, _)]) dX12_changed_42 (Nat.le_of_ble_eq_true rfl) rfl ?_
        refine v_iconst (v := 0) dX12_changed_44 (by decide) ?_
        refine v_istore (L' := [(10, _), (9, _), (0, _), (1, _), (3, _), (5, _), (7, _)]) dX12_changed_45 (Nat.le_of_ble_eq_true rfl) rfl ?_
        refine v_sub (L' := [(10, _), (9, _), (0, _), (1, _), (3, _), (5, _), (7, _)]) [0, 1, 2, 3, 4, 5, 6] rfl ?_
        exact l_changed G _ _ h z b nl lr x0 y0 x1 y1 _ _ _ _ _ _ _ _ _ _ _ _ _ hb hla ⟨rfl, rfl, rfl⟩ nl 0 (by omega)
      · exact absurd (Int64.not_lt.mp hy) c_28
  · exact absurd c_4 hlf

set_option maxHeartbeats 4000000 in
set_option maxRecDepth 100000 in
theorem c_changed_a (G : sv_G) (hl0 : G.1.stackTraces = false) (h : sv_h) (z b : Nat) (x0 y0 x1 y1 : Int64) (ly tp rd ck wv ru la fo fl lo : Nat) (rc lr lf : Int32) (hb : h b = some (.inr (10, [.ref ly, .ref tp, .ref rd, .ref ck, .ref wv, .ref ru, .int rc, .int lr, .int lf, .ref la, .ref fo, .ref fl, .ref lo]))) (hlf : ¬ lf = 0) (hx : x1 < x0 ∨ y1 < y0) : CX G mX12_changed [.ref b, .long x0, .long y0, .long x1, .long y1] h z (fun _ _ _ => False) (fun E h1 z1 => E = "java/lang/IllegalArgumentException" ∧ h1 = h) := by
  refine CX.of (by decide +kernel) rfl rfl (Nat.le_of_ble_eq_true rfl) ?_
  refine v_aload_n dX12_changed_0 rfl 0 rfl ?_
  refine v_getf 8 (ci := 10) (C := RX12) (T := TX12) (N := 13) rfl iwX12_changed_X12 (Nat.le_of_ble_eq_true rfl) (by decide +kernel) dX12_changed_1 (by repeat (first | (with_reducible refine sv_us.trans ?_; exact rfl) | with_reducible assumption | with_reducible refine (sv_un (by omega)).trans ?_)) rfl ?_
  refine v_if_ne (tgt := 17) dX12_changed_4 (by decide) (fun c_4 => ?_) (fun c_4 => ?_)
  · refine v_lload_n dX12_changed_17 rfl 1 rfl ?_
    refine v_lload dX12_changed_18 3 rfl ?_
    refine v_lcmp_gt (tgt := 31) dX12_changed_20 dX12_changed_21 (by decide) (fun c_21 => ?_) (fun c_21 => ?_)
    · exact v_throw (ik := 155) (is := 241) (ic := 159) (cls := "java/lang/IllegalArgumentException") (text := "no such box") (names := ["java/lang/RuntimeException", "java/lang/Exception"]) hl0 rfl (by decide +kernel) (by decide +kernel) (by decide +kernel) (by decide +kernel) (by decide +kernel) (by decide +kernel) (by decide +kernel) sv_bwA (by decide +kernel) dX12_changed_31 dX12_changed_34 dX12_changed_35 dX12_changed_37 dX12_changed_40 rfl (Nat.le_of_ble_eq_true rfl) (Nat.le_of_ble_eq_true rfl) (Nat.le_of_ble_eq_true rfl) (Nat.le_of_ble_eq_true rfl) (fun z9 hz9 => ⟨rfl, rfl⟩)
    · refine v_lload_n dX12_changed_24 rfl 2 rfl ?_
      refine v_lload dX12_changed_25 4 rfl ?_
      refine v_lcmp_le (tgt := 41) dX12_changed_27 dX12_changed_28 (by decide) (fun c_28 => ?_) (fun c_28 => ?_)
      · exact absurd (hx.resolve_left c_21) (Int64.not_lt.mpr c_28)
      · exact v_throw (ik := 155) (is := 241) (ic := 159) (cls := "java/lang/IllegalArgumentException") (text := "no such box") (names := ["java/lang/RuntimeException", "java/lang/Exception"]) hl0 rfl (by decide +kernel) (by decide +kernel) (by decide +kernel) (by decide +kernel) (by decide +kernel) (by decide +kernel) (by decide +kernel) sv_bwA (by decide +kernel) dX12_changed_31 dX12_changed_34 dX12_changed_35 dX12_changed_37 dX12_changed_40 rfl (Nat.le_of_ble_eq_true rfl) (Nat.le_of_ble_eq_true rfl) (Nat.le_of_ble_eq_true rfl) (Nat.le_of_ble_eq_true rfl) (fun z9 hz9 => ⟨rfl, rfl⟩)
  · exact absurd c_4 hlf

set_option maxHeartbeats 4000000 in
set_option maxRecDepth 100000 in
theorem l_changedm (G : sv_G) (Qr : Option Value → sv_h → Nat → Prop) (h : sv_h) (z m : Nat) (fs : List Value) (hlen : fs.length = 71) (hm : h m = some (.inr (11, fs))) (nl A : Nat) (f : Nat → Int64) (lr : Nat → Int64) (x0 y0 x1 y1 : Int64) (f_code : fs[0]? = some (.int 0)) (f_latest : fs[30]? = some (.int (nI nl))) (f_told : fs[27]? = some (.ref A)) (hA : h A = some (.inl (G.2.2.1 1, 36048, .inr (.inl f)))) (hnl : nl ≤ 1500) (hf : ∀ k, k < nl → ∀ j, j < 12 → f (18024 + (12 * k + j)) = lr (12 * k + j)) (hk : Qr (some (.int (nI (ab_hits lr x0 y0 x1 y1 nl)))) h z) : ∀ (c n : Nat), n + c = nl → V G mX13_changed (sv_MQ G mX13_changed Qr) 48 [(10, .int (nI n)), (9, .int (nI (ab_hits lr x0 y0 x1 y1 n))), (0, .ref m), (1, .long x0), (3, .long y0), (5, .long x1), (7, .long y1)] [] h z 0 0 := by
  intro c
  induction c with
  | zero =>
    intro n hn
    refine v_iload dX13_changed_48 0 rfl ?_
    refine v_aload_n dX13_changed_50 rfl 2 rfl ?_
    refine v_getf 30 (ci := 11) (C := RX13) (T := TX13) (N := 71) rfl iwX13_changed_X13 (Nat.le_of_ble_eq_true rfl) (by decide +kernel) dX13_changed_51 (by repeat (first | (with_reducible refine sv_us.trans ?_; exact rfl) | with_reducible assumption | with_reducible refine (sv_un (by omega)).trans ?_)) (by repeat (first | with_reducible assumption | (with_reducible refine (sv_ls (by first | omega | (simp only [List.length_set]; omega))).trans ?_; exact rfl) | with_reducible refine (List.getElem?_set_ne (by decide)).trans ?_)) ?_
    refine v_icmp_ge (tgt := 147) dX13_changed_54 (by decide) (fun c_54 => ?_) (fun c_54 => ?_)
    · refine v_iload dX13_changed_147 1 rfl ?_
      exact v_iret rfl dX13_changed_149 (Nat.le_of_ble_eq_true rfl) (Nat.le_of_ble_eq_true rfl) rfl (by rw [show n = nl by omega]; exact hk)
    · exact absurd (show nI nl ≤ nI n from nI_le (by omega) (by omega)) c_54
  | succ c ih =>
    intro n hn
    refine v_iload dX13_changed_48 0 rfl ?_
    refine v_aload_n dX13_changed_50 rfl 2 rfl ?_
    refine v_getf 30 (ci := 11) (C := RX13) (T := TX13) (N := 71) rfl iwX13_changed_X13 (Nat.le_of_ble_eq_true rfl) (by decide +kernel) dX13_changed_51 (by repeat (first | (with_reducible refine sv_us.trans ?_; exact rfl) | with_reducible assumption | with_reducible refine (sv_un (by omega)).trans ?_)) (by repeat (first | with_reducible assumption | (with_reducible refine (sv_ls (by first | omega | (simp only [List.length_set]; omega))).trans ?_; exact rfl) | with_reducible refine (List.getElem?_set_ne (by decide)).trans ?_)) ?_
    refine v_icmp_ge (tgt := 147) dX13_changed_54 (by decide) (fun c_54 => ?_) (fun c_54 => ?_)
    · exact absurd c_54 (nI_ge (by omega) (by omega))
    · refine v_aload_n dX13_changed_57 rfl 2 rfl ?_
      refine v_getf 0 (ci := 11) (C := RX13) (T := TX13) (N := 71) rfl iwX13_changed_X13 (Nat.le_of_ble_eq_true rfl) (by decide +kernel) dX13_changed_58 (by repeat (first | (with_reducible refine sv_us.trans ?_; exact rfl) | with_reducible assumption | with_reducible refine (sv_un (by omega)).trans ?_)) (by repeat (first | with_reducible assumption | (with_reducible refine (sv_ls (by first | omega | (simp only [List.length_set]; omega))).trans ?_; exact rfl) | with_reducible refine (List.getElem?_set_ne (by decide)).trans ?_)) ?_
      refine v_if_ne (tgt := 147) dX13_changed_61 (by decide) (fun c_61 => ?_) (fun c_61 => ?_)
      · exact absurd rfl c_61
      · refine v_sipush (v := 18024) dX13_changed_64 (by decide) ?_
        refine v_bipush (v := 12) dX13_changed_67 (by decide) ?_
        refine v_iload dX13_changed_69 0 rfl ?_
        refine v_imul dX13_changed_71 ?_
        refine v_iadd dX13_changed_72 ?_
        refine v_istore (L' := [(11, _), (10, _), (9, _), (0, _), (1, _), (3, _), (5, _), (7, _)]) dX13_changed_73 (Nat.le_of_ble_eq_true rfl) rfl ?_
        refine v_iload dX13_changed_75 2 rfl ?_
        refine v_aload_n dX13_changed_77 rfl 3 rfl ?_
        refine v_getf 27 (ci := 11) (C := RX13) (T := TX13) (N := 71) rfl iwX13_changed_X13 (Nat.le_of_ble_eq_true rfl) (by decide +kernel) dX13_changed_78 (by repeat (first | (with_reducible refine sv_us.trans ?_; exact rfl) | with_reducible assumption | with_reducible refine (sv_un (by omega)).trans ?_)) (by repeat (first | with_reducible assumption | (with_reducible refine (sv_ls (by first | omega | (simp only [List.length_set]; omega))).trans ?_; exact rfl) | with_reducible refine (List.getElem?_set_ne (by decide)).trans ?_)) ?_
        refine v_iload dX13_changed_81 0 rfl ?_
        refine v_laldS (v := lr (12 * n + 0)) dX13_changed_83 (by repeat (first | (with_reducible refine sv_us.trans ?_; exact rfl) | with_reducible assumption | with_reducible refine (sv_un (by omega)).trans ?_)) (by rw [sv_12c]; exact vp_in_nI (by omega) (by omega)) (by rw [sv_12c, nI_clamp (by omega)]; exact hf n (by omega) 0 (by omega)) ?_
        refine v_lload dX13_changed_84 6 rfl ?_
        refine v_lcmp_gt (tgt := 137) dX13_changed_86 dX13_changed_87 (by decide) (fun c_87 => ?_) (fun c_87 => ?_)
        · refine v_iconst (v := 0) dX13_changed_137 (by decide) ?_
          refine v_iadd dX13_changed_138 ?_
          refine v_istore (L' := [(9, _), (11, _), (10, _), (0, _), (1, _), (3, _), (5, _), (7, _)]) dX13_changed_139 (Nat.le_of_ble_eq_true rfl) rfl ?_
          refine v_iinc (j := 2) (L' := [(10, _), (9, _), (11, _), (0, _), (1, _), (3, _), (5, _), (7, _)]) (v := nI (n + 1)) dX13_changed_141 rfl (nI_1 _) (Nat.le_of_ble_eq_true rfl) rfl ?_
          refine v_goto (tgt := 48) dX13_changed_144 (by decide) ?_
          refine v_sub (L' := [(10, _), (9, _), (0, _), (1, _), (3, _), (5, _), (7, _)]) [0, 1, 3, 4, 5, 6, 7] rfl ?_
          first
          | (have e9 := ih (n + 1) (by omega); rw [ab_hits_t c_87 (Int64.not_lt.mp c_101) c_116 (Int64.not_lt.mp c_130), ← nI_1 (ab_hits lr x0 y0 x1 y1 n)] at e9; exact e9)
          | (have e9 := ih (n + 1) (by omega); rw [ab_hits_f (by first | exact Or.inl c_87 | exact Or.inr (Or.inl (Int64.not_le.mpr c_101)) | exact Or.inr (Or.inr (Or.inl c_116)) | exact Or.inr (Or.inr (Or.inr (Int64.not_le.mpr c_130)))), ← sv_a0 (ab_hits lr x0 y0 x1 y1 n)] at e9; exact e9)
        · refine v_aload_n dX13_changed_90 rfl 3 rfl ?_
          refine v_getf 27 (ci := 11) (C := RX13) (T := TX13) (N := 71) rfl iwX13_changed_X13 (Nat.le_of_ble_eq_true rfl) (by decide +kernel) dX13_changed_91 (by repeat (first | (with_reducible refine sv_us.trans ?_; exact rfl) | with_reducible assumption | with_reducible refine (sv_un (by omega)).trans ?_)) (by repeat (first | with_reducible assumption | (with_reducible refine (sv_ls (by first | omega | (simp only [List.length_set]; omega))).trans ?_; exact rfl) | with_reducible refine (List.getElem?_set_ne (by decide)).trans ?_)) ?_
          refine v_iload dX13_changed_94 0 rfl ?_
          refine v_iconst (v := 2) dX13_changed_96 (by decide) ?_
          refine v_iadd dX13_changed_97 ?_
          refine v_laldS (v := lr (12 * n + 2)) dX13_changed_98 (by repeat (first | (with_reducible refine sv_us.trans ?_; exact rfl) | with_reducible assumption | with_reducible refine (sv_un (by omega)).trans ?_)) (by rw [show (2 : Int32) = nI 2 from rfl, sv_12b]; exact vp_in_nI (by omega) (by omega)) (by rw [show (2 : Int32) = nI 2 from rfl, sv_12b, nI_clamp (by omega)]; exact hf n (by omega) 2 (by omega)) ?_
          refine v_lload_n dX13_changed_99 rfl 4 rfl ?_
          refine v_lcmp_lt (tgt := 137) dX13_changed_100 dX13_changed_101 (by decide) (fun c_101 => ?_) (fun c_101 => ?_)
          · refine v_iconst (v := 0) dX13_changed_137 (by decide) ?_
            refine v_iadd dX13_changed_138 ?_
            refine v_istore (L' := [(9, _), (11, _), (10, _), (0, _), (1, _), (3, _), (5, _), (7, _)]) dX13_changed_139 (Nat.le_of_ble_eq_true rfl) rfl ?_
            refine v_iinc (j := 2) (L' := [(10, _), (9, _), (11, _), (0, _), (1, _), (3, _), (5, _), (7, _)]) (v := nI (n + 1)) dX13_changed_141 rfl (nI_1 _) (Nat.le_of_ble_eq_true rfl) rfl ?_
            refine v_goto (tgt := 48) dX13_changed_144 (by decide) ?_
            refine v_sub (L' := [(10, _), (9, _), (0, _), (1, _), (3, _), (5, _), (7, _)]) [0, 1, 3, 4, 5, 6, 7] rfl ?_
            first
            | (have e9 := ih (n + 1) (by omega); rw [ab_hits_t c_87 (Int64.not_lt.mp c_101) c_116 (Int64.not_lt.mp c_130), ← nI_1 (ab_hits lr x0 y0 x1 y1 n)] at e9; exact e9)
            | (have e9 := ih (n + 1) (by omega); rw [ab_hits_f (by first | exact Or.inl c_87 | exact Or.inr (Or.inl (Int64.not_le.mpr c_101)) | exact Or.inr (Or.inr (Or.inl c_116)) | exact Or.inr (Or.inr (Or.inr (Int64.not_le.mpr c_130)))), ← sv_a0 (ab_hits lr x0 y0 x1 y1 n)] at e9; exact e9)
          · refine v_aload_n dX13_changed_104 rfl 3 rfl ?_
            refine v_getf 27 (ci := 11) (C := RX13) (T := TX13) (N := 71) rfl iwX13_changed_X13 (Nat.le_of_ble_eq_true rfl) (by decide +kernel) dX13_changed_105 (by repeat (first | (with_reducible refine sv_us.trans ?_; exact rfl) | with_reducible assumption | with_reducible refine (sv_un (by omega)).trans ?_)) (by repeat (first | with_reducible assumption | (with_reducible refine (sv_ls (by first | omega | (simp only [List.length_set]; omega))).trans ?_; exact rfl) | with_reducible refine (List.getElem?_set_ne (by decide)).trans ?_)) ?_
            refine v_iload dX13_changed_108 0 rfl ?_
            refine v_iconst (v := 1) dX13_changed_110 (by decide) ?_
            refine v_iadd dX13_changed_111 ?_
            refine v_laldS (v := lr (12 * n + 1)) dX13_changed_112 (by repeat (first | (with_reducible refine sv_us.trans ?_; exact rfl) | with_reducible assumption | with_reducible refine (sv_un (by omega)).trans ?_)) (by rw [show (1 : Int32) = nI 1 from rfl, sv_12b]; exact vp_in_nI (by omega) (by omega)) (by rw [show (1 : Int32) = nI 1 from rfl, sv_12b, nI_clamp (by omega)]; exact hf n (by omega) 1 (by omega)) ?_
            refine v_lload dX13_changed_113 7 rfl ?_
            refine v_lcmp_gt (tgt := 137) dX13_changed_115 dX13_changed_116 (by decide) (fun c_116 => ?_) (fun c_116 => ?_)
            · refine v_iconst (v := 0) dX13_changed_137 (by decide) ?_
              refine v_iadd dX13_changed_138 ?_
              refine v_istore (L' := [(9, _), (11, _), (10, _), (0, _), (1, _), (3, _), (5, _), (7, _)]) dX13_changed_139 (Nat.le_of_ble_eq_true rfl) rfl ?_
              refine v_iinc (j := 2) (L' := [(10, _), (9, _), (11, _), (0, _), (1, _), (3, _), (5, _), (7, _)]) (v := nI (n + 1)) dX13_changed_141 rfl (nI_1 _) (Nat.le_of_ble_eq_true rfl) rfl ?_
              refine v_goto (tgt := 48) dX13_changed_144 (by decide) ?_
              refine v_sub (L' := [(10, _), (9, _), (0, _), (1, _), (3, _), (5, _), (7, _)]) [0, 1, 3, 4, 5, 6, 7] rfl ?_
              first
              | (have e9 := ih (n + 1) (by omega); rw [ab_hits_t c_87 (Int64.not_lt.mp c_101) c_116 (Int64.not_lt.mp c_130), ← nI_1 (ab_hits lr x0 y0 x1 y1 n)] at e9; exact e9)
              | (have e9 := ih (n + 1) (by omega); rw [ab_hits_f (by first | exact Or.inl c_87 | exact Or.inr (Or.inl (Int64.not_le.mpr c_101)) | exact Or.inr (Or.inr (Or.inl c_116)) | exact Or.inr (Or.inr (Or.inr (Int64.not_le.mpr c_130)))), ← sv_a0 (ab_hits lr x0 y0 x1 y1 n)] at e9; exact e9)
            · refine v_aload_n dX13_changed_119 rfl 3 rfl ?_
              refine v_getf 27 (ci := 11) (C := RX13) (T := TX13) (N := 71) rfl iwX13_changed_X13 (Nat.le_of_ble_eq_true rfl) (by decide +kernel) dX13_changed_120 (by repeat (first | (with_reducible refine sv_us.trans ?_; exact rfl) | with_reducible assumption | with_reducible refine (sv_un (by omega)).trans ?_)) (by repeat (first | with_reducible assumption | (with_reducible refine (sv_ls (by first | omega | (simp only [List.length_set]; omega))).trans ?_; exact rfl) | with_reducible refine (List.getElem?_set_ne (by decide)).trans ?_)) ?_
              refine v_iload dX13_changed_123 0 rfl ?_
              refine v_iconst (v := 3) dX13_changed_125 (by decide) ?_
              refine v_iadd dX13_changed_126 ?_
              refine v_laldS (v := lr (12 * n + 3)) dX13_changed_127 (by repeat (first | (with_reducible refine sv_us.trans ?_; exact rfl) | with_reducible assumption | with_reducible refine (sv_un (by omega)).trans ?_)) (by rw [show (3 : Int32) = nI 3 from rfl, sv_12b]; exact vp_in_nI (by omega) (by omega)) (by rw [show (3 : Int32) = nI 3 from rfl, sv_12b, nI_clamp (by omega)]; exact hf n (by omega) 3 (by omega)) ?_
              refine v_lload_n dX13_changed_128 rfl 5 rfl ?_
              refine v_lcmp_lt (tgt := 137) dX13_changed_129 dX13_changed_130 (by decide) (fun c_130 => ?_) (fun c_130 => ?_)
              · refine v_iconst (v := 0) dX13_changed_137 (by decide) ?_
                refine v_iadd dX13_changed_138 ?_
                refine v_istore (L' := [(9, _), (11, _), (10, _), (0, _), (1, _), (3, _), (5, _), (7, _)]) dX13_changed_139 (Nat.le_of_ble_eq_true rfl) rfl ?_
                refine v_iinc (j := 2) (L' := [(10, _), (9, _), (11, _), (0, _), (1, _), (3, _), (5, _), (7, _)]) (v := nI (n + 1)) dX13_changed_141 rfl (nI_1 _) (Nat.le_of_ble_eq_true rfl) rfl ?_
                refine v_goto (tgt := 48) dX13_changed_144 (by decide) ?_
                refine v_sub (L' := [(10, _), (9, _), (0, _), (1, _), (3, _), (5, _), (7, _)]) [0, 1, 3, 4, 5, 6, 7] rfl ?_
                first
                | (have e9 := ih (n + 1) (by omega); rw [ab_hits_t c_87 (Int64.not_lt.mp c_101) c_116 (Int64.not_lt.mp c_130), ← nI_1 (ab_hits lr x0 y0 x1 y1 n)] at e9; exact e9)
                | (have e9 := ih (n + 1) (by omega); rw [ab_hits_f (by first | exact Or.inl c_87 | exact Or.inr (Or.inl (Int64.not_le.mpr c_101)) | exact Or.inr (Or.inr (Or.inl c_116)) | exact Or.inr (Or.inr (Or.inr (Int64.not_le.mpr c_130)))), ← sv_a0 (ab_hits lr x0 y0 x1 y1 n)] at e9; exact e9)
              · refine v_iconst (v := 1) dX13_changed_133 (by decide) ?_
                refine v_goto (tgt := 138) dX13_changed_134 (by decide) ?_
                refine v_iadd dX13_changed_138 ?_
                refine v_istore (L' := [(9, _), (11, _), (10, _), (0, _), (1, _), (3, _), (5, _), (7, _)]) dX13_changed_139 (Nat.le_of_ble_eq_true rfl) rfl ?_
                refine v_iinc (j := 2) (L' := [(10, _), (9, _), (11, _), (0, _), (1, _), (3, _), (5, _), (7, _)]) (v := nI (n + 1)) dX13_changed_141 rfl (nI_1 _) (Nat.le_of_ble_eq_true rfl) rfl ?_
                refine v_goto (tgt := 48) dX13_changed_144 (by decide) ?_
                refine v_sub (L' := [(10, _), (9, _), (0, _), (1, _), (3, _), (5, _), (7, _)]) [0, 1, 3, 4, 5, 6, 7] rfl ?_
                first
                | (have e9 := ih (n + 1) (by omega); rw [ab_hits_t c_87 (Int64.not_lt.mp c_101) c_116 (Int64.not_lt.mp c_130), ← nI_1 (ab_hits lr x0 y0 x1 y1 n)] at e9; exact e9)
                | (have e9 := ih (n + 1) (by omega); rw [ab_hits_f (by first | exact Or.inl c_87 | exact Or.inr (Or.inl (Int64.not_le.mpr c_101)) | exact Or.inr (Or.inr (Or.inl c_116)) | exact Or.inr (Or.inr (Or.inr (Int64.not_le.mpr c_130)))), ← sv_a0 (ab_hits lr x0 y0 x1 y1 n)] at e9; exact e9)

set_option maxHeartbeats 4000000 in
set_option maxRecDepth 100000 in
theorem m_changed (G : sv_G) (h : sv_h) (z m : Nat) (fs : List Value) (hlen : fs.length = 71) (hm : h m = some (.inr (11, fs))) (nl A : Nat) (f : Nat → Int64) (lr : Nat → Int64) (lq lf : Int32) (x0 y0 x1 y1 : Int64) (f_latest : fs[30]? = some (.int (nI nl))) (f_told : fs[27]? = some (.ref A)) (f_latestRule : fs[31]? = some (.int lq)) (f_latestFlat : fs[32]? = some (.int lf)) (hA : h A = some (.inl (G.2.2.1 1, 36048, .inr (.inl f)))) (hne : m ≠ A) (hnl : nl ≤ 1500) (hf : ∀ k, k < nl → ∀ j, j < 12 → f (18024 + (12 * k + j)) = lr (12 * k + j)) (hq1 : ¬ lq = -1) (hlf : ¬ lf = 0) (hx : ¬ x1 < x0) (hy : ¬ y1 < y0) : CT G mX13_changed [.ref m, .long x0, .long y0, .long x1, .long y1] h z (fun v h1 z1 => v = some (.int (nI (ab_hits lr x0 y0 x1 y1 nl))) ∧ h1 = va_up h m (some (.inr (11, fs.set 0 (.int 0)))) ∧ z1 = z) := by
  refine CT.of (by decide +kernel) rfl rfl (Nat.le_of_ble_eq_true rfl) ?_
  refine v_aload_n dX13_changed_0 rfl 0 rfl ?_
  refine v_aload_n dX13_changed_1 rfl 0 rfl ?_
  refine v_getf 31 (ci := 11) (C := RX13) (T := TX13) (N := 71) rfl iwX13_changed_X13 (Nat.le_of_ble_eq_true rfl) (by decide +kernel) dX13_changed_2 (by repeat (first | (with_reducible refine sv_us.trans ?_; exact rfl) | with_reducible assumption | with_reducible refine (sv_un (by omega)).trans ?_)) (by repeat (first | with_reducible assumption | (with_reducible refine (sv_ls (by first | omega | (simp only [List.length_set]; omega))).trans ?_; exact rfl) | with_reducible refine (List.getElem?_set_ne (by decide)).trans ?_)) ?_
  refine v_iconst (v := (-1)) dX13_changed_5 (by decide) ?_
  refine v_icmp_eq (tgt := 16) dX13_changed_6 (by decide) (fun c_6 => ?_) (fun c_6 => ?_)
  · exact absurd c_6 hq1
  · refine v_aload_n dX13_changed_9 rfl 0 rfl ?_
    refine v_getf 32 (ci := 11) (C := RX13) (T := TX13) (N := 71) rfl iwX13_changed_X13 (Nat.le_of_ble_eq_true rfl) (by decide +kernel) dX13_changed_10 (by repeat (first | (with_reducible refine sv_us.trans ?_; exact rfl) | with_reducible assumption | with_reducible refine (sv_un (by omega)).trans ?_)) (by repeat (first | with_reducible assumption | (with_reducible refine (sv_ls (by first | omega | (simp only [List.length_set]; omega))).trans ?_; exact rfl) | with_reducible refine (List.getElem?_set_ne (by decide)).trans ?_)) ?_
    refine v_if_ne (tgt := 20) dX13_changed_13 (by decide) (fun c_13 => ?_) (fun c_13 => ?_)
    · refine v_lload_n dX13_changed_20 rfl 1 rfl ?_
      refine v_lload dX13_changed_21 3 rfl ?_
      refine v_lcmp_gt (tgt := 34) dX13_changed_23 dX13_changed_24 (by decide) (fun c_24 => ?_) (fun c_24 => ?_)
      · exact absurd c_24 hx
      · refine v_lload_n dX13_changed_27 rfl 2 rfl ?_
        refine v_lload dX13_changed_28 4 rfl ?_
        refine v_lcmp_le (tgt := 38) dX13_changed_30 dX13_changed_31 (by decide) (fun c_31 => ?_) (fun c_31 => ?_)
        · refine v_iconst (v := 0) dX13_changed_38 (by decide) ?_
          refine v_putf 0 (fs' := _) (ci := 11) (C := RX13) (T := TX13) (N := 71) (ty := .int) rfl iwX13_changed_X13 tyX13 tyX13_ok nmX13 (Nat.le_of_ble_eq_true rfl) (by decide +kernel) rfl rfl dX13_changed_39 rfl rfl (by repeat (first | (with_reducible refine sv_us.trans ?_; exact rfl) | with_reducible assumption | with_reducible refine (sv_un (by omega)).trans ?_)) (by first | omega | (simp only [List.length_set]; omega)) rfl ?_
          refine v_iconst (v := 0) dX13_changed_42 (by decide) ?_
          refine v_istore (L' := [(9, _), (0, _), (1, _), (3, _), (5, _), (7, _)]) dX13_changed_43 (Nat.le_of_ble_eq_true rfl) rfl ?_
          refine v_iconst (v := 0) dX13_changed_45 (by decide) ?_
          refine v_istore (L' := [(10, _), (9, _), (0, _), (1, _), (3, _), (5, _), (7, _)]) dX13_changed_46 (Nat.le_of_ble_eq_true rfl) rfl ?_
          refine v_sub (L' := [(10, _), (9, _), (0, _), (1, _), (3, _), (5, _), (7, _)]) [0, 1, 2, 3, 4, 5, 6] rfl ?_
          exact l_changedm G _ _ z m _ (by rw [List.length_set]; exact hlen) sv_us nl A f lr x0 y0 x1 y1 (sv_ls (by omega)) ((List.getElem?_set_ne (by decide)).trans f_latest) ((List.getElem?_set_ne (by decide)).trans f_told) ((sv_un (fun q => hne q.symm)).trans hA) hnl hf ⟨rfl, rfl, rfl⟩ nl 0 (by omega)
        · exact absurd (Int64.not_lt.mp hy) c_31
    · exact absurd c_13 hlf

set_option maxHeartbeats 4000000 in
set_option maxRecDepth 100000 in
theorem m_changed_1 (G : sv_G) (h : sv_h) (z m : Nat) (fs : List Value) (hlen : fs.length = 71) (hm : h m = some (.inr (11, fs))) (lq lf n : Int32) (x0 y0 x1 y1 : Int64) (f_latest : fs[30]? = some (.int n)) (f_latestRule : fs[31]? = some (.int lq)) (f_latestFlat : fs[32]? = some (.int lf)) (hq1 : lq = -1 ∨ lf = 0) : CT G mX13_changed [.ref m, .long x0, .long y0, .long x1, .long y1] h z (fun v h1 z1 => v = some (.int 0) ∧ h1 = va_up h m (some (.inr (11, fs.set 0 (.int 1)))) ∧ z1 = z) := by
  refine CT.of (by decide +kernel) rfl rfl (Nat.le_of_ble_eq_true rfl) ?_
  refine v_aload_n dX13_changed_0 rfl 0 rfl ?_
  refine v_aload_n dX13_changed_1 rfl 0 rfl ?_
  refine v_getf 31 (ci := 11) (C := RX13) (T := TX13) (N := 71) rfl iwX13_changed_X13 (Nat.le_of_ble_eq_true rfl) (by decide +kernel) dX13_changed_2 (by repeat (first | (with_reducible refine sv_us.trans ?_; exact rfl) | with_reducible assumption | with_reducible refine (sv_un (by omega)).trans ?_)) (by repeat (first | with_reducible assumption | (with_reducible refine (sv_ls (by first | omega | (simp only [List.length_set]; omega))).trans ?_; exact rfl) | with_reducible refine (List.getElem?_set_ne (by decide)).trans ?_)) ?_
  refine v_iconst (v := (-1)) dX13_changed_5 (by decide) ?_
  refine v_icmp_eq (tgt := 16) dX13_changed_6 (by decide) (fun c_6 => ?_) (fun c_6 => ?_)
  · refine v_iconst (v := 1) dX13_changed_16 (by decide) ?_
    refine v_goto (tgt := 39) dX13_changed_17 (by decide) ?_
    refine v_putf 0 (fs' := _) (ci := 11) (C := RX13) (T := TX13) (N := 71) (ty := .int) rfl iwX13_changed_X13 tyX13 tyX13_ok nmX13 (Nat.le_of_ble_eq_true rfl) (by decide +kernel) rfl rfl dX13_changed_39 rfl rfl (by repeat (first | (with_reducible refine sv_us.trans ?_; exact rfl) | with_reducible assumption | with_reducible refine (sv_un (by omega)).trans ?_)) (by first | omega | (simp only [List.length_set]; omega)) rfl ?_
    refine v_iconst (v := 0) dX13_changed_42 (by decide) ?_
    refine v_istore (L' := [(9, _), (0, _), (1, _), (3, _), (5, _), (7, _)]) dX13_changed_43 (Nat.le_of_ble_eq_true rfl) rfl ?_
    refine v_iconst (v := 0) dX13_changed_45 (by decide) ?_
    refine v_istore (L' := [(10, _), (9, _), (0, _), (1, _), (3, _), (5, _), (7, _)]) dX13_changed_46 (Nat.le_of_ble_eq_true rfl) rfl ?_
    refine v_iload dX13_changed_48 0 rfl ?_
    refine v_aload_n dX13_changed_50 rfl 2 rfl ?_
    refine v_getf 30 (ci := 11) (C := RX13) (T := TX13) (N := 71) rfl iwX13_changed_X13 (Nat.le_of_ble_eq_true rfl) (by decide +kernel) dX13_changed_51 (by repeat (first | (with_reducible refine sv_us.trans ?_; exact rfl) | with_reducible assumption | with_reducible refine (sv_un (by omega)).trans ?_)) (by repeat (first | with_reducible assumption | (with_reducible refine (sv_ls (by first | omega | (simp only [List.length_set]; omega))).trans ?_; exact rfl) | with_reducible refine (List.getElem?_set_ne (by decide)).trans ?_)) ?_
    refine v_icmp_ge (tgt := 147) dX13_changed_54 (by decide) (fun c_54 => ?_) (fun c_54 => ?_)
    · refine v_iload dX13_changed_147 1 rfl ?_
      exact v_iret rfl dX13_changed_149 (Nat.le_of_ble_eq_true rfl) (Nat.le_of_ble_eq_true rfl) rfl ⟨rfl, rfl, rfl⟩
    · refine v_aload_n dX13_changed_57 rfl 2 rfl ?_
      refine v_getf 0 (ci := 11) (C := RX13) (T := TX13) (N := 71) rfl iwX13_changed_X13 (Nat.le_of_ble_eq_true rfl) (by decide +kernel) dX13_changed_58 (by repeat (first | (with_reducible refine sv_us.trans ?_; exact rfl) | with_reducible assumption | with_reducible refine (sv_un (by omega)).trans ?_)) (by repeat (first | with_reducible assumption | (with_reducible refine (sv_ls (by first | omega | (simp only [List.length_set]; omega))).trans ?_; exact rfl) | with_reducible refine (List.getElem?_set_ne (by decide)).trans ?_)) ?_
      refine v_if_ne (tgt := 147) dX13_changed_61 (by decide) (fun c_61 => ?_) (fun c_61 => ?_)
      · refine v_iload dX13_changed_147 1 rfl ?_
        exact v_iret rfl dX13_changed_149 (Nat.le_of_ble_eq_true rfl) (Nat.le_of_ble_eq_true rfl) rfl ⟨rfl, rfl, rfl⟩
      · exact absurd c_61 (by decide)
  · refine v_aload_n dX13_changed_9 rfl 0 rfl ?_
    refine v_getf 32 (ci := 11) (C := RX13) (T := TX13) (N := 71) rfl iwX13_changed_X13 (Nat.le_of_ble_eq_true rfl) (by decide +kernel) dX13_changed_10 (by repeat (first | (with_reducible refine sv_us.trans ?_; exact rfl) | with_reducible assumption | with_reducible refine (sv_un (by omega)).trans ?_)) (by repeat (first | with_reducible assumption | (with_reducible refine (sv_ls (by first | omega | (simp only [List.length_set]; omega))).trans ?_; exact rfl) | with_reducible refine (List.getElem?_set_ne (by decide)).trans ?_)) ?_
    refine v_if_ne (tgt := 20) dX13_changed_13 (by decide) (fun c_13 => ?_) (fun c_13 => ?_)
    · exact absurd (hq1.resolve_left c_6) c_13
    · refine v_iconst (v := 1) dX13_changed_16 (by decide) ?_
      refine v_goto (tgt := 39) dX13_changed_17 (by decide) ?_
      refine v_putf 0 (fs' := _) (ci := 11) (C := RX13) (T := TX13) (N := 71) (ty := .int) rfl iwX13_changed_X13 tyX13 tyX13_ok nmX13 (Nat.le_of_ble_eq_true rfl) (by decide +kernel) rfl rfl dX13_changed_39 rfl rfl (by repeat (first | (with_reducible refine sv_us.trans ?_; exact rfl) | with_reducible assumption | with_reducible refine (sv_un (by omega)).trans ?_)) (by first | omega | (simp only [List.length_set]; omega)) rfl ?_
      refine v_iconst (v := 0) dX13_changed_42 (by decide) ?_
      refine v_istore (L' := [(9, _), (0, _), (1, _), (3, _), (5, _), (7, _)]) dX13_changed_43 (Nat.le_of_ble_eq_true rfl) rfl ?_
      refine v_iconst (v := 0) dX13_changed_45 (by decide) ?_
      refine v_istore (L' := [(10, _), (9, _), (0, _), (1, _), (3, _), (5, _), (7, _)]) dX13_changed_46 (Nat.le_of_ble_eq_true rfl) rfl ?_
      refine v_iload dX13_changed_48 0 rfl ?_
      refine v_aload_n dX13_changed_50 rfl 2 rfl ?_
      refine v_getf 30 (ci := 11) (C := RX13) (T := TX13) (N := 71) rfl iwX13_changed_X13 (Nat.le_of_ble_eq_true rfl) (by decide +kernel) dX13_changed_51 (by repeat (first | (with_reducible refine sv_us.trans ?_; exact rfl) | with_reducible assumption | with_reducible refine (sv_un (by omega)).trans ?_)) (by repeat (first | with_reducible assumption | (with_reducible refine (sv_ls (by first | omega | (simp only [List.length_set]; omega))).trans ?_; exact rfl) | with_reducible refine (List.getElem?_set_ne (by decide)).trans ?_)) ?_
      refine v_icmp_ge (tgt := 147) dX13_changed_54 (by decide) (fun c_54 => ?_) (fun c_54 => ?_)
      · refine v_iload dX13_changed_147 1 rfl ?_
        exact v_iret rfl dX13_changed_149 (Nat.le_of_ble_eq_true rfl) (Nat.le_of_ble_eq_true rfl) rfl ⟨rfl, rfl, rfl⟩
      · refine v_aload_n dX13_changed_57 rfl 2 rfl ?_
        refine v_getf 0 (ci := 11) (C := RX13) (T := TX13) (N := 71) rfl iwX13_changed_X13 (Nat.le_of_ble_eq_true rfl) (by decide +kernel) dX13_changed_58 (by repeat (first | (with_reducible refine sv_us.trans ?_; exact rfl) | with_reducible assumption | with_reducible refine (sv_un (by omega)).trans ?_)) (by repeat (first | with_reducible assumption | (with_reducible refine (sv_ls (by first | omega | (simp only [List.length_set]; omega))).trans ?_; exact rfl) | with_reducible refine (List.getElem?_set_ne (by decide)).trans ?_)) ?_
        refine v_if_ne (tgt := 147) dX13_changed_61 (by decide) (fun c_61 => ?_) (fun c_61 => ?_)
        · refine v_iload dX13_changed_147 1 rfl ?_
          exact v_iret rfl dX13_changed_149 (Nat.le_of_ble_eq_true rfl) (Nat.le_of_ble_eq_true rfl) rfl ⟨rfl, rfl, rfl⟩
        · exact absurd c_61 (by decide)

set_option maxHeartbeats 4000000 in
set_option maxRecDepth 100000 in
theorem m_changed_2 (G : sv_G) (h : sv_h) (z m : Nat) (fs : List Value) (hlen : fs.length = 71) (hm : h m = some (.inr (11, fs))) (lq lf n : Int32) (x0 y0 x1 y1 : Int64) (f_latest : fs[30]? = some (.int n)) (f_latestRule : fs[31]? = some (.int lq)) (f_latestFlat : fs[32]? = some (.int lf)) (hq1 : ¬ lq = -1) (hlf : ¬ lf = 0) (hx : x1 < x0 ∨ y1 < y0) : CT G mX13_changed [.ref m, .long x0, .long y0, .long x1, .long y1] h z (fun v h1 z1 => v = some (.int 0) ∧ h1 = va_up h m (some (.inr (11, fs.set 0 (.int 2)))) ∧ z1 = z) := by
  refine CT.of (by decide +kernel) rfl rfl (Nat.le_of_ble_eq_true rfl) ?_
  refine v_aload_n dX13_changed_0 rfl 0 rfl ?_
  refine v_aload_n dX13_changed_1 rfl 0 rfl ?_
  refine v_getf 31 (ci := 11) (C := RX13) (T := TX13) (N := 71) rfl iwX13_changed_X13 (Nat.le_of_ble_eq_true rfl) (by decide +kernel) dX13_changed_2 (by repeat (first | (with_reducible refine sv_us.trans ?_; exact rfl) | with_reducible assumption | with_reducible refine (sv_un (by omega)).trans ?_)) (by repeat (first | with_reducible assumption | (with_reducible refine (sv_ls (by first | omega | (simp only [List.length_set]; omega))).trans ?_; exact rfl) | with_reducible refine (List.getElem?_set_ne (by decide)).trans ?_)) ?_
  refine v_iconst (v := (-1)) dX13_changed_5 (by decide) ?_
  refine v_icmp_eq (tgt := 16) dX13_changed_6 (by decide) (fun c_6 => ?_) (fun c_6 => ?_)
  · exact absurd c_6 hq1
  · refine v_aload_n dX13_changed_9 rfl 0 rfl ?_
    refine v_getf 32 (ci := 11) (C := RX13) (T := TX13) (N := 71) rfl iwX13_changed_X13 (Nat.le_of_ble_eq_true rfl) (by decide +kernel) dX13_changed_10 (by repeat (first | (with_reducible refine sv_us.trans ?_; exact rfl) | with_reducible assumption | with_reducible refine (sv_un (by omega)).trans ?_)) (by repeat (first | with_reducible assumption | (with_reducible refine (sv_ls (by first | omega | (simp only [List.length_set]; omega))).trans ?_; exact rfl) | with_reducible refine (List.getElem?_set_ne (by decide)).trans ?_)) ?_
    refine v_if_ne (tgt := 20) dX13_changed_13 (by decide) (fun c_13 => ?_) (fun c_13 => ?_)
    · refine v_lload_n dX13_changed_20 rfl 1 rfl ?_
      refine v_lload dX13_changed_21 3 rfl ?_
      refine v_lcmp_gt (tgt := 34) dX13_changed_23 dX13_changed_24 (by decide) (fun c_24 => ?_) (fun c_24 => ?_)
      · refine v_iconst (v := 2) dX13_changed_34 (by decide) ?_
        refine v_goto (tgt := 39) dX13_changed_35 (by decide) ?_
        refine v_putf 0 (fs' := _) (ci := 11) (C := RX13) (T := TX13) (N := 71) (ty := .int) rfl iwX13_changed_X13 tyX13 tyX13_ok nmX13 (Nat.le_of_ble_eq_true rfl) (by decide +kernel) rfl rfl dX13_changed_39 rfl rfl (by repeat (first | (with_reducible refine sv_us.trans ?_; exact rfl) | with_reducible assumption | with_reducible refine (sv_un (by omega)).trans ?_)) (by first | omega | (simp only [List.length_set]; omega)) rfl ?_
        refine v_iconst (v := 0) dX13_changed_42 (by decide) ?_
        refine v_istore (L' := [(9, _), (0, _), (1, _), (3, _), (5, _), (7, _)]) dX13_changed_43 (Nat.le_of_ble_eq_true rfl) rfl ?_
        refine v_iconst (v := 0) dX13_changed_45 (by decide) ?_
        refine v_istore (L' := [(10, _), (9, _), (0, _), (1, _), (3, _), (5, _), (7, _)]) dX13_changed_46 (Nat.le_of_ble_eq_true rfl) rfl ?_
        refine v_iload dX13_changed_48 0 rfl ?_
        refine v_aload_n dX13_changed_50 rfl 2 rfl ?_
        refine v_getf 30 (ci := 11) (C := RX13) (T := TX13) (N := 71) rfl iwX13_changed_X13 (Nat.le_of_ble_eq_true rfl) (by decide +kernel) dX13_changed_51 (by repeat (first | (with_reducible refine sv_us.trans ?_; exact rfl) | with_reducible assumption | with_reducible refine (sv_un (by omega)).trans ?_)) (by repeat (first | with_reducible assumption | (with_reducible refine (sv_ls (by first | omega | (simp only [List.length_set]; omega))).trans ?_; exact rfl) | with_reducible refine (List.getElem?_set_ne (by decide)).trans ?_)) ?_
        refine v_icmp_ge (tgt := 147) dX13_changed_54 (by decide) (fun c_54 => ?_) (fun c_54 => ?_)
        · refine v_iload dX13_changed_147 1 rfl ?_
          exact v_iret rfl dX13_changed_149 (Nat.le_of_ble_eq_true rfl) (Nat.le_of_ble_eq_true rfl) rfl ⟨rfl, rfl, rfl⟩
        · refine v_aload_n dX13_changed_57 rfl 2 rfl ?_
          refine v_getf 0 (ci := 11) (C := RX13) (T := TX13) (N := 71) rfl iwX13_changed_X13 (Nat.le_of_ble_eq_true rfl) (by decide +kernel) dX13_changed_58 (by repeat (first | (with_reducible refine sv_us.trans ?_; exact rfl) | with_reducible assumption | with_reducible refine (sv_un (by omega)).trans ?_)) (by repeat (first | with_reducible assumption | (with_reducible refine (sv_ls (by first | omega | (simp only [List.length_set]; omega))).trans ?_; exact rfl) | with_reducible refine (List.getElem?_set_ne (by decide)).trans ?_)) ?_
          refine v_if_ne (tgt := 147) dX13_changed_61 (by decide) (fun c_61 => ?_) (fun c_61 => ?_)
          · refine v_iload dX13_changed_147 1 rfl ?_
            exact v_iret rfl dX13_changed_149 (Nat.le_of_ble_eq_true rfl) (Nat.le_of_ble_eq_true rfl) rfl ⟨rfl, rfl, rfl⟩
          · exact absurd c_61 (by decide)
      · refine v_lload_n dX13_changed_27 rfl 2 rfl ?_
        refine v_lload dX13_changed_28 4 rfl ?_
        refine v_lcmp_le (tgt := 38) dX13_changed_30 dX13_changed_31 (by decide) (fun c_31 => ?_) (fun c_31 => ?_)
        · exact absurd (hx.resolve_left c_24) (Int64.not_lt.mpr c_31)
        · refine v_iconst (v := 2) dX13_changed_34 (by decide) ?_
          refine v_goto (tgt := 39) dX13_changed_35 (by decide) ?_
          refine v_putf 0 (fs' := _) (ci := 11) (C := RX13) (T := TX13) (N := 71) (ty := .int) rfl iwX13_changed_X13 tyX13 tyX13_ok nmX13 (Nat.le_of_ble_eq_true rfl) (by decide +kernel) rfl rfl dX13_changed_39 rfl rfl (by repeat (first | (with_reducible refine sv_us.trans ?_; exact rfl) | with_reducible assumption | with_reducible refine (sv_un (by omega)).trans ?_)) (by first | omega | (simp only [List.length_set]; omega)) rfl ?_
          refine v_iconst (v := 0) dX13_changed_42 (by decide) ?_
          refine v_istore (L' := [(9, _), (0, _), (1, _), (3, _), (5, _), (7, _)]) dX13_changed_43 (Nat.le_of_ble_eq_true rfl) rfl ?_
          refine v_iconst (v := 0) dX13_changed_45 (by decide) ?_
          refine v_istore (L' := [(10, _), (9, _), (0, _), (1, _), (3, _), (5, _), (7, _)]) dX13_changed_46 (Nat.le_of_ble_eq_true rfl) rfl ?_
          refine v_iload dX13_changed_48 0 rfl ?_
          refine v_aload_n dX13_changed_50 rfl 2 rfl ?_
          refine v_getf 30 (ci := 11) (C := RX13) (T := TX13) (N := 71) rfl iwX13_changed_X13 (Nat.le_of_ble_eq_true rfl) (by decide +kernel) dX13_changed_51 (by repeat (first | (with_reducible refine sv_us.trans ?_; exact rfl) | with_reducible assumption | with_reducible refine (sv_un (by omega)).trans ?_)) (by repeat (first | with_reducible assumption | (with_reducible refine (sv_ls (by first | omega | (simp only [List.length_set]; omega))).trans ?_; exact rfl) | with_reducible refine (List.getElem?_set_ne (by decide)).trans ?_)) ?_
          refine v_icmp_ge (tgt := 147) dX13_changed_54 (by decide) (fun c_54 => ?_) (fun c_54 => ?_)
          · refine v_iload dX13_changed_147 1 rfl ?_
            exact v_iret rfl dX13_changed_149 (Nat.le_of_ble_eq_true rfl) (Nat.le_of_ble_eq_true rfl) rfl ⟨rfl, rfl, rfl⟩
          · refine v_aload_n dX13_changed_57 rfl 2 rfl ?_
            refine v_getf 0 (ci := 11) (C := RX13) (T := TX13) (N := 71) rfl iwX13_changed_X13 (Nat.le_of_ble_eq_true rfl) (by decide +kernel) dX13_changed_58 (by repeat (first | (with_reducible refine sv_us.trans ?_; exact rfl) | with_reducible assumption | with_reducible refine (sv_un (by omega)).trans ?_)) (by repeat (first | with_reducible assumption | (with_reducible refine (sv_ls (by first | omega | (simp only [List.length_set]; omega))).trans ?_; exact rfl) | with_reducible refine (List.getElem?_set_ne (by decide)).trans ?_)) ?_
            refine v_if_ne (tgt := 147) dX13_changed_61 (by decide) (fun c_61 => ?_) (fun c_61 => ?_)
            · refine v_iload dX13_changed_147 1 rfl ?_
              exact v_iret rfl dX13_changed_149 (Nat.le_of_ble_eq_true rfl) (Nat.le_of_ble_eq_true rfl) rfl ⟨rfl, rfl, rfl⟩
            · exact absurd c_61 (by decide)
    · exact absurd c_13 hlf

theorem g_changed (G : sv_G) (hl0 : G.1.stackTraces = false) (b : Nat) (x0 y0 x1 y1 : Int64) : OpI G mX12_changed mX13_changed b (b + 220) (b + 261) ["java/lang/IllegalStateException", "java/lang/IllegalArgumentException"] [.long x0, .long y0, .long x1, .long y1] (ab_Inv G b) (ab_Inv G b) := by
  refine OpI.of fun h z hi => ?_
  obtain ⟨k, nc, np, pl, sz, t, u, pa, ma, tn, tp, nr, r, ru, rd, nl, lr, la, fo, fl, nw, wr, lX, lq, lf, mf, fs, ⟨gok, gLay, gAd, gML⟩, ⟨gTp, gMTp⟩, ⟨gRu, gRd, gRl, gRr, gMR⟩, ⟨gLa, gFo, gFl, gLo, gMLa⟩, ⟨gWv, gMWv⟩, ⟨gDk, glq, gmf, glf⟩, ⟨gm, gfs⟩, ⟨gCk, gSc, go⟩⟩ := id hi
  obtain ⟨gru, i1, i2, i3, i4, i5, i6, i7, i8, i9, gla, gfo, gfl⟩ := id gDk.2
  have gz := gAd.1
  obtain ⟨f0, ho⟩ := id go
  obtain ⟨fm, y6, y7⟩ := id gMLa
  by_cases hf : lf = 0
  · have hq : lq = -1 ∨ mf = 0 := by
      by_cases q : lq = -1
      · exact Or.inl q
      · rw [if_neg q] at glf; exact Or.inr (glf.symm.trans hf)
    exact at_refI 0 hi rfl (c_changed_o G hl0 h z b x0 y0 x1 y1 _ _ _ _ _ _ _ _ _ _ _ _ _ gDk.1 hf) gm gfs.1 (fun z1 => m_changed_1 G _ _ _ _ gfs.1 gm lq mf _ x0 y0 x1 y1 gfs.f_latest gfs.f_latestRule gfs.f_latestFlat hq)
  · have hq : ¬ lq = -1 := fun q => hf (by rw [glf, if_pos q])
    have hm0 : ¬ mf = 0 := fun q => hf (by rw [glf, if_neg hq]; exact q)
    by_cases hx : x1 < x0 ∨ y1 < y0
    · exact at_refI 1 hi rfl (c_changed_a G hl0 h z b x0 y0 x1 y1 _ _ _ _ _ _ _ _ _ _ _ _ _ gDk.1 hf hx) gm gfs.1 (fun z1 => m_changed_2 G _ _ _ _ gfs.1 gm lq mf _ x0 y0 x1 y1 gfs.f_latest gfs.f_latestRule gfs.f_latestFlat hq hm0 hx)
    · have hx1 : ¬ x1 < x0 := fun q => hx (Or.inl q)
      have hx2 : ¬ y1 < y0 := fun q => hx (Or.inr q)
      exact at_purI hi (c_changed G hl0 h z b nl lr x0 y0 x1 y1 _ _ _ _ _ _ _ _ _ _ _ _ _ gDk.1 gLa hf hx1 hx2) gm gfs.1 (fun h2 e3 => m_changed G h2 z _ _ gfs.1 ((e3 _ (by omega)).trans gm) nl (b + 241) fm lr lq mf x0 y0 x1 y1 gfs.f_latest gfs.f_told gfs.f_latestRule gfs.f_latestFlat ((e3 _ (by omega)).trans y6) (by omega) gLa.1 y7 hq hm0 hx1 hx2)
