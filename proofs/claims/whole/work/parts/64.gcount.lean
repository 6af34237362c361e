set_option maxHeartbeats 4000000 in
set_option maxRecDepth 100000 in
theorem c_count (G : sv_G) (hl0 : G.1.stackTraces = false) (hki : sv_ki G) (h : sv_h) (z b nr nl nw tn : Nat) (w : Int32) (f : Nat → Int32) (q ru : Nat) (fr : Nat → Option Nat) (hr1 : ab_Q G h ru 5 20 fr) (hr2 : ∀ j, j < 20 → fr j = some (q + j)) (hn : nr ≤ 20) (hr3 : ∀ i, i < nr → ∃ kd, kd < 11 ∧ f i = nI kd ∧ ∃ (nm : Int64) (x1 x2 x3 x4 x5 x6 : Int32), h (q + i) = some (.inr (5, [.long nm, .ref (G.2.2.2.2.1 kd), .int x1, .int x2, .int x3, .int x4, .int x5, .int x6]))) (ly tp rd ck wv la fo fl lo : Nat) (lr lf : Int32) (hb : h b = some (.inr (10, [.ref ly, .ref tp, .ref rd, .ref ck, .ref wv, .ref ru, .int (nI nr), .int lr, .int lf, .ref la, .ref fo, .ref fl, .ref lo]))) (ro od st : Nat) (us ov hm : Int32) (hla : h la = some (.inr (8, [.ref ro, .int us, .ref od, .ref st, .int (nI nl), .int ov, .int hm]))) (w0 w1 : Nat) (hwv : h wv = some (.inr (9, [.ref w0, .ref w1, .int (nI nw)]))) (A : Nat) (htp : h tp = some (.inr (7, [.ref A, .int (nI tn)]))) : CX G mX12_count [.ref b, .int w] h z (fun v h1 z1 => ¬ (w.toInt < 0 ∨ 4 < w.toInt) ∧ v = some (.int (if w = 0 then nI nr else if w = 1 then nI (kn_a f nr) else if w = 2 then nI nl else if w = 3 then nI nw else nI tn)) ∧ h1 = h ∧ z1 = z) (fun E h1 z1 => (w.toInt < 0 ∨ 4 < w.toInt) ∧ E = "java/lang/IndexOutOfBoundsException" ∧ h1 = h) := by
  refine CX.of (by decide +kernel) rfl rfl (Nat.le_of_ble_eq_true rfl) ?_
  refine v_iload_n dX12_count_0 rfl 1 rfl ?_
  by_cases hw : w.toInt < 0 ∨ 4 < w.toInt
  · refine v_tableOut (tgt := 70) dX12_count_1 hw (by decide) ?_
    exact v_throw (ik := 121) (is := 255) (ic := 125) (cls := "java/lang/IndexOutOfBoundsException") (text := "no such what") (names := ["java/lang/RuntimeException", "java/lang/Exception"]) hl0 rfl (by decide +kernel) (by decide +kernel) (by decide +kernel) (by decide +kernel) (by decide +kernel) (by decide +kernel) (by decide +kernel) sv_bwO (by decide +kernel) dX12_count_70 dX12_count_73 dX12_count_74 dX12_count_76 dX12_count_79 rfl (Nat.le_of_ble_eq_true rfl) (Nat.le_of_ble_eq_true rfl) (Nat.le_of_ble_eq_true rfl) (Nat.le_of_ble_eq_true rfl) (fun z9 hz9 => ⟨hw, rfl, rfl⟩)
  · rcases (show w.toInt = 0 ∨ w.toInt = 1 ∨ w.toInt = 2 ∨ w.toInt = 3 ∨ w.toInt = 4 by omega) with e | e | e | e | e
    · obtain rfl : w = 0 := Int32.toInt_inj.mp (e.trans (by decide))
      refine v_tableIn (off := 35) (tgt := 36) dX12_count_1 (by decide) (by decide) (by decide) (by decide) ?_
      refine v_aload_n dX12_count_36 rfl 0 rfl ?_
      refine v_getf 6 (ci := 10) (C := RX12) (T := TX12) (N := 13) rfl iwX12_count_X12 (Nat.le_of_ble_eq_true rfl) (by decide +kernel) dX12_count_37 (by repeat (first | (with_reducible refine sv_us.trans ?_; exact rfl) | with_reducible assumption | with_reducible refine (sv_un (by omega)).trans ?_)) rfl ?_
      exact v_xret (v_iret rfl dX12_count_40 (Nat.le_of_ble_eq_true rfl) (Nat.le_of_ble_eq_true rfl) rfl ⟨hw, rfl, rfl, rfl⟩)
    · obtain rfl : w = 1 := Int32.toInt_inj.mp (e.trans (by decide))
      refine v_tableIn (off := 40) (tgt := 41) dX12_count_1 (by decide) (by decide) (by decide) (by decide) ?_
      refine v_aload_n dX12_count_41 rfl 0 rfl ?_
      refine v_callV (M' := mX12_kindsInUse) (n := 0) (As := []) (ci := 10) (r := (RX12, TX12, 13)) gX12_count_X12_kindsInUse rfl (by decide +kernel) ⟨(Nat.le_of_ble_eq_true rfl), (Nat.le_of_ble_eq_true rfl)⟩ rfl rfl dX12_count_42 rfl ⟨(Nat.le_of_ble_eq_true rfl), (Nat.le_of_ble_eq_true rfl)⟩ (Nat.le_of_ble_eq_true rfl) (by repeat (first | (with_reducible refine sv_us.trans ?_; exact rfl) | with_reducible assumption | with_reducible refine (sv_un (by omega)).trans ?_)) rfl (c_kinds G hki _ _ _ _ f q ru fr hr1 hr2 hn hr3 _ _ _ _ _ _ _ _ _ _ _ hb) (fun v h1 z1 hq => ?_)
      obtain ⟨rfl, rfl, rfl⟩ := hq
      exact v_xret (v_iret rfl dX12_count_45 (Nat.le_of_ble_eq_true rfl) (Nat.le_of_ble_eq_true rfl) rfl ⟨hw, rfl, rfl, rfl⟩)
    · obtain rfl : w = 2 := Int32.toInt_inj.mp (e.trans (by decide))
      refine v_tableIn (off := 45) (tgt := 46) dX12_count_1 (by decide) (by decide) (by decide) (by decide) ?_
      refine v_aload_n dX12_count_46 rfl 0 rfl ?_
      refine v_getf 9 (ci := 10) (C := RX12) (T := TX12) (N := 13) rfl iwX12_count_X12 (Nat.le_of_ble_eq_true rfl) (by decide +kernel) dX12_count_47 (by repeat (first | (with_reducible refine sv_us.trans ?_; exact rfl) | with_reducible assumption | with_reducible refine (sv_un (by omega)).trans ?_)) rfl ?_
      refine v_getf 4 (ci := 8) (C := RX10) (T := TX10) (N := 7) rfl iwX12_count_X10 (Nat.le_of_ble_eq_true rfl) (by decide +kernel) dX12_count_50 (by repeat (first | (with_reducible refine sv_us.trans ?_; exact rfl) | with_reducible assumption | with_reducible refine (sv_un (by omega)).trans ?_)) rfl ?_
      exact v_xret (v_iret rfl dX12_count_53 (Nat.le_of_ble_eq_true rfl) (Nat.le_of_ble_eq_true rfl) rfl ⟨hw, rfl, rfl, rfl⟩)
    · obtain rfl : w = 3 := Int32.toInt_inj.mp (e.trans (by decide))
      refine v_tableIn (off := 53) (tgt := 54) dX12_count_1 (by decide) (by decide) (by decide) (by decide) ?_
      refine v_aload_n dX12_count_54 rfl 0 rfl ?_
      refine v_getf 4 (ci := 10) (C := RX12) (T := TX12) (N := 13) rfl iwX12_count_X12 (Nat.le_of_ble_eq_true rfl) (by decide +kernel) dX12_count_55 (by repeat (first | (with_reducible refine sv_us.trans ?_; exact rfl) | with_reducible assumption | with_reducible refine (sv_un (by omega)).trans ?_)) rfl ?_
      refine v_getf 2 (ci := 9) (C := RX11) (T := TX11) (N := 3) rfl iwX12_count_X11 (Nat.le_of_ble_eq_true rfl) (by decide +kernel) dX12_count_58 (by repeat (first | (with_reducible refine sv_us.trans ?_; exact rfl) | with_reducible assumption | with_reducible refine (sv_un (by omega)).trans ?_)) rfl ?_
      exact v_xret (v_iret rfl dX12_count_61 (Nat.le_of_ble_eq_true rfl) (Nat.le_of_ble_eq_true rfl) rfl ⟨hw, rfl, rfl, rfl⟩)
    · obtain rfl : w = 4 := Int32.toInt_inj.mp (e.trans (by decide))
      refine v_tableIn (off := 61) (tgt := 62) dX12_count_1 (by decide) (by decide) (by decide) (by decide) ?_
      refine v_aload_n dX12_count_62 rfl 0 rfl ?_
      refine v_getf 1 (ci := 10) (C := RX12) (T := TX12) (N := 13) rfl iwX12_count_X12 (Nat.le_of_ble_eq_true rfl) (by decide +kernel) dX12_count_63 (by repeat (first | (with_reducible refine sv_us.trans ?_; exact rfl) | with_reducible assumption | with_reducible refine (sv_un (by omega)).trans ?_)) rfl ?_
      refine v_getf 1 (ci := 7) (C := RX9) (T := TX9) (N := 2) rfl iwX12_count_X9 (Nat.le_of_ble_eq_true rfl) (by decide +kernel) dX12_count_66 (by repeat (first | (with_reducible refine sv_us.trans ?_; exact rfl) | with_reducible assumption | with_reducible refine (sv_un (by omega)).trans ?_)) rfl ?_
      exact v_xret (v_iret rfl dX12_count_69 (Nat.le_of_ble_eq_true rfl) (Nat.le_of_ble_eq_true rfl) rfl ⟨hw, rfl, rfl, rfl⟩)

set_option maxHeartbeats 4000000 in
set_option maxRecDepth 100000 in
theorem l_mcnt1 (G : sv_G) (Qr : Option Value → sv_h → Nat → Prop) (h : sv_h) (z m : Nat) (fs : List Value) (hlen : fs.length = 71) (hm : h m = some (.inr (11, fs))) (k : Nat) (c2 w : Int32) (f kf : Nat → Int32) (nr A : Nat) (f_rules : fs[18]? = some (.int (nI nr))) (f_kind : fs[19]? = some (.ref A)) (hA : ab_I G h A 40 kf) (hkf : ∀ i, i < nr → kf i = f i) (hnr : nr ≤ 20) (hk : ∀ y : Int32, ((y = 1 ∧ ∃ q, q < nr ∧ f q = nI k) ∨ (y = 0 ∧ ¬ ∃ q, q < nr ∧ f q = nI k)) → V G mX13_count (sv_MQ G mX13_count Qr) 72 [(5, .int (nI nr)), (4, .int y), (3, .int (nI k)), (2, .int c2), (0, .ref m), (1, .int w)] [] h z 0 0) : ∀ (c j : Nat) (y : Int32), j + c = nr → ((y = 1 ∧ ∃ q, q < j ∧ f q = nI k) ∨ (y = 0 ∧ ¬ ∃ q, q < j ∧ f q = nI k)) → V G mX13_count (sv_MQ G mX13_count Qr) 34 [(5, .int (nI j)), (4, .int y), (3, .int (nI k)), (2, .int c2), (0, .ref m), (1, .int w)] [] h z 0 0 := by
  intro c
  induction c with
  | zero =>
    intro j y hjc hy
    refine v_iload dX13_count_34 0 rfl ?_
    refine v_aload_n dX13_count_36 rfl 4 rfl ?_
    refine v_getf 18 (ci := 11) (C := RX13) (T := TX13) (N := 71) rfl iwX13_count_X13 (Nat.le_of_ble_eq_true rfl) (by decide +kernel) dX13_count_37 (by repeat (first | (with_reducible refine sv_us.trans ?_; exact rfl) | with_reducible assumption | with_reducible refine (sv_un (by omega)).trans ?_)) (by repeat (first | with_reducible assumption | (with_reducible refine (sv_ls (by first | omega | (simp only [List.length_set]; omega))).trans ?_; exact rfl) | with_reducible refine (List.getElem?_set_ne (by decide)).trans ?_)) ?_
    refine v_icmp_ge (tgt := 72) dX13_count_40 (by decide) (fun c_40 => ?_) (fun c_40 => ?_)
    · (obtain rfl : j = nr := by omega)
      exact hk y hy
    · exact absurd (show nI nr ≤ nI j from nI_le (by omega) (by omega)) c_40
  | succ c ih =>
    intro j y hjc hy
    refine v_iload dX13_count_34 0 rfl ?_
    refine v_aload_n dX13_count_36 rfl 4 rfl ?_
    refine v_getf 18 (ci := 11) (C := RX13) (T := TX13) (N := 71) rfl iwX13_count_X13 (Nat.le_of_ble_eq_true rfl) (by decide +kernel) dX13_count_37 (by repeat (first | (with_reducible refine sv_us.trans ?_; exact rfl) | with_reducible assumption | with_reducible refine (sv_un (by omega)).trans ?_)) (by repeat (first | with_reducible assumption | (with_reducible refine (sv_ls (by first | omega | (simp only [List.length_set]; omega))).trans ?_; exact rfl) | with_reducible refine (List.getElem?_set_ne (by decide)).trans ?_)) ?_
    refine v_icmp_ge (tgt := 72) dX13_count_40 (by decide) (fun c_40 => ?_) (fun c_40 => ?_)
    · exact absurd c_40 (nI_ge (by omega) (by omega))
    · refine v_iload dX13_count_43 1 rfl ?_
      refine v_if_ne (tgt := 59) dX13_count_45 (by decide) (fun c_45 => ?_) (fun c_45 => ?_)
      · refine v_iconst (v := 1) dX13_count_59 (by decide) ?_
        refine v_goto (tgt := 64) dX13_count_60 (by decide) ?_
        refine v_istore (L' := [(4, _), (5, _), (3, _), (2, _), (0, _), (1, _)]) dX13_count_64 (Nat.le_of_ble_eq_true rfl) rfl ?_
        refine v_iinc (j := 1) (L' := [(5, _), (4, _), (3, _), (2, _), (0, _), (1, _)]) (v := nI (j + 1)) dX13_count_66 rfl (nI_1 _) (Nat.le_of_ble_eq_true rfl) rfl ?_
        refine v_goto (tgt := 34) dX13_count_69 (by decide) ?_
        refine v_sub (L' := [(5, _), (4, _), (3, _), (2, _), (0, _), (1, _)]) [0, 1, 2, 3, 4, 5] rfl ?_
        refine ih (j + 1) _ (by omega) ?_
        first
        | exact Or.inl ⟨rfl, (hy.resolve_right (fun r => c_45 r.1)).2.elim (fun q hq => ⟨q, Nat.lt_succ_of_lt hq.1, hq.2⟩)⟩
        | exact Or.inl ⟨rfl, j, by omega, c_56⟩
        | (refine Or.inr ⟨rfl, fun ⟨q, q1, q2⟩ => ?_⟩
           by_cases e : q = j
           · rw [e] at q2; exact c_56 q2
           · exact (hy.resolve_left (fun r => by rw [r.1] at c_45; exact absurd c_45 (by decide))).2 ⟨q, by omega, q2⟩)
      · refine v_aload_n dX13_count_48 rfl 4 rfl ?_
        refine v_getf 19 (ci := 11) (C := RX13) (T := TX13) (N := 71) rfl iwX13_count_X13 (Nat.le_of_ble_eq_true rfl) (by decide +kernel) dX13_count_49 (by repeat (first | (with_reducible refine sv_us.trans ?_; exact rfl) | with_reducible assumption | with_reducible refine (sv_un (by omega)).trans ?_)) (by repeat (first | with_reducible assumption | (with_reducible refine (sv_ls (by first | omega | (simp only [List.length_set]; omega))).trans ?_; exact rfl) | with_reducible refine (List.getElem?_set_ne (by decide)).trans ?_)) ?_
        refine v_iload dX13_count_52 0 rfl ?_
        refine v_ialdS (v := f j) dX13_count_54 (by repeat (first | (with_reducible refine sv_us.trans ?_; exact rfl) | with_reducible assumption | with_reducible refine (sv_un (by omega)).trans ?_)) (vp_in_nI (by omega) (by omega)) (by rw [nI_clamp (by omega)]; exact hkf j (by omega)) ?_
        refine v_iload_n dX13_count_55 rfl 2 rfl ?_
        refine v_icmp_ne (tgt := 63) dX13_count_56 (by decide) (fun c_56 => ?_) (fun c_56 => ?_)
        · refine v_iconst (v := 0) dX13_count_63 (by decide) ?_
          refine v_istore (L' := [(4, _), (5, _), (3, _), (2, _), (0, _), (1, _)]) dX13_count_64 (Nat.le_of_ble_eq_true rfl) rfl ?_
          refine v_iinc (j := 1) (L' := [(5, _), (4, _), (3, _), (2, _), (0, _), (1, _)]) (v := nI (j + 1)) dX13_count_66 rfl (nI_1 _) (Nat.le_of_ble_eq_true rfl) rfl ?_
          refine v_goto (tgt := 34) dX13_count_69 (by decide) ?_
          refine v_sub (L' := [(5, _), (4, _), (3, _), (2, _), (0, _), (1, _)]) [0, 1, 2, 3, 4, 5] rfl ?_
          refine ih (j + 1) _ (by omega) ?_
          first
          | exact Or.inl ⟨rfl, (hy.resolve_right (fun r => c_45 r.1)).2.elim (fun q hq => ⟨q, Nat.lt_succ_of_lt hq.1, hq.2⟩)⟩
          | exact Or.inl ⟨rfl, j, by omega, c_56⟩
          | (refine Or.inr ⟨rfl, fun ⟨q, q1, q2⟩ => ?_⟩
             by_cases e : q = j
             · rw [e] at q2; exact c_56 q2
             · exact (hy.resolve_left (fun r => by rw [r.1] at c_45; exact absurd c_45 (by decide))).2 ⟨q, by omega, q2⟩)
        · refine v_iconst (v := 1) dX13_count_59 (by decide) ?_
          refine v_goto (tgt := 64) dX13_count_60 (by decide) ?_
          refine v_istore (L' := [(4, _), (5, _), (3, _), (2, _), (0, _), (1, _)]) dX13_count_64 (Nat.le_of_ble_eq_true rfl) rfl ?_
          refine v_iinc (j := 1) (L' := [(5, _), (4, _), (3, _), (2, _), (0, _), (1, _)]) (v := nI (j + 1)) dX13_count_66 rfl (nI_1 _) (Nat.le_of_ble_eq_true rfl) rfl ?_
          refine v_goto (tgt := 34) dX13_count_69 (by decide) ?_
          refine v_sub (L' := [(5, _), (4, _), (3, _), (2, _), (0, _), (1, _)]) [0, 1, 2, 3, 4, 5] rfl ?_
          refine ih (j + 1) _ (by omega) ?_
          first
          | exact Or.inl ⟨rfl, (hy.resolve_right (fun r => c_45 r.1)).2.elim (fun q hq => ⟨q, Nat.lt_succ_of_lt hq.1, hq.2⟩)⟩
          | exact Or.inl ⟨rfl, j, by omega, c_56⟩
          | (refine Or.inr ⟨rfl, fun ⟨q, q1, q2⟩ => ?_⟩
             by_cases e : q = j
             · rw [e] at q2; exact c_56 q2
             · exact (hy.resolve_left (fun r => by rw [r.1] at c_45; exact absurd c_45 (by decide))).2 ⟨q, by omega, q2⟩)

set_option maxHeartbeats 4000000 in
set_option maxRecDepth 100000 in
theorem l_mcnt2 (G : sv_G) (Qr : Option Value → sv_h → Nat → Prop) (h : sv_h) (z m : Nat) (fs : List Value) (hlen : fs.length = 71) (hm : h m = some (.inr (11, fs))) (w : Int32) (f kf : Nat → Int32) (nr A : Nat) (f_rules : fs[18]? = some (.int (nI nr))) (f_kind : fs[19]? = some (.ref A)) (hA : ab_I G h A 40 kf) (hkf : ∀ i, i < nr → kf i = f i) (hnr : nr ≤ 20) (hk : V G mX13_count (sv_MQ G mX13_count Qr) 91 [(3, .int (nI 11)), (2, .int (nI (kn_b f nr 11))), (0, .ref m), (1, .int w)] [] h z 0 0) : ∀ (c k : Nat), k + c = 11 → V G mX13_count (sv_MQ G mX13_count Qr) 22 [(3, .int (nI k)), (2, .int (nI (kn_b f nr k))), (0, .ref m), (1, .int w)] [] h z 0 0 := by
  intro c
  induction c with
  | zero =>
    intro k hkc
    refine v_iload_n dX13_count_22 rfl 0 rfl ?_
    refine v_bipush (v := 10) dX13_count_23 (by decide) ?_
    refine v_icmp_gt (tgt := 91) dX13_count_25 (by decide) (fun c_25 => ?_) (fun c_25 => ?_)
    · (obtain rfl : k = 11 := by omega)
      exact hk
    · exact absurd (nI_lt (a := 10) (b := k) (by omega) (by omega)) c_25
  | succ c ih =>
    intro k hkc
    refine v_iload_n dX13_count_22 rfl 0 rfl ?_
    refine v_bipush (v := 10) dX13_count_23 (by decide) ?_
    refine v_icmp_gt (tgt := 91) dX13_count_25 (by decide) (fun c_25 => ?_) (fun c_25 => ?_)
    · exact absurd c_25 (nI_nlt (a := 10) (b := k) (by omega) (by omega))
    · refine v_iconst (v := 0) dX13_count_28 (by decide) ?_
      refine v_istore (L' := [(4, _), (3, _), (2, _), (0, _), (1, _)]) dX13_count_29 (Nat.le_of_ble_eq_true rfl) rfl ?_
      refine v_iconst (v := 0) dX13_count_31 (by decide) ?_
      refine v_istore (L' := [(5, _), (4, _), (3, _), (2, _), (0, _), (1, _)]) dX13_count_32 (Nat.le_of_ble_eq_true rfl) rfl ?_
      refine v_sub (L' := [(5, _), (4, _), (3, _), (2, _), (0, _), (1, _)]) [0, 1, 2, 3, 4, 5] rfl ?_
      refine l_mcnt1 G _ h z m fs hlen hm k _ w f kf nr A f_rules f_kind hA hkf hnr (fun y9 hy9 => ?_) nr 0 _ (by omega) (Or.inr ⟨rfl, fun ⟨q, q1, _⟩ => absurd q1 (Nat.not_lt_zero q)⟩)
      refine v_iload_n dX13_count_72 rfl 3 rfl ?_
      refine v_iload dX13_count_73 1 rfl ?_
      refine v_if_eq (tgt := 82) dX13_count_75 (by decide) (fun c_75 => ?_) (fun c_75 => ?_)
      · refine v_iconst (v := 0) dX13_count_82 (by decide) ?_
        refine v_iadd dX13_count_83 ?_
        refine v_istore_n (L' := [(2, _), (5, _), (4, _), (3, _), (0, _), (1, _)]) dX13_count_84 rfl (Nat.le_of_ble_eq_true rfl) rfl ?_
        refine v_iinc (j := 3) (L' := [(3, _), (2, _), (5, _), (4, _), (0, _), (1, _)]) (v := nI (k + 1)) dX13_count_85 rfl (nI_1 _) (Nat.le_of_ble_eq_true rfl) rfl ?_
        refine v_goto (tgt := 22) dX13_count_88 (by decide) ?_
        refine v_sub (L' := [(3, _), (2, _), (0, _), (1, _)]) [0, 1, 4, 5] rfl ?_
        first
        | (have e9 := ih (k + 1) (by omega); rw [kn_b0 ((hy9.resolve_left (fun r => by rw [r.1] at c_75; exact absurd c_75 (by decide))).2), ← sv_a0 (kn_b f nr k)] at e9; exact e9)
        | (have e9 := ih (k + 1) (by omega); rw [kn_b1 ((hy9.resolve_right (fun r => c_75 r.1)).2), ← nI_1 (kn_b f nr k)] at e9; exact e9)
      · refine v_iconst (v := 1) dX13_count_78 (by decide) ?_
        refine v_goto (tgt := 83) dX13_count_79 (by decide) ?_
        refine v_iadd dX13_count_83 ?_
        refine v_istore_n (L' := [(2, _), (5, _), (4, _), (3, _), (0, _), (1, _)]) dX13_count_84 rfl (Nat.le_of_ble_eq_true rfl) rfl ?_
        refine v_iinc (j := 3) (L' := [(3, _), (2, _), (5, _), (4, _), (0, _), (1, _)]) (v := nI (k + 1)) dX13_count_85 rfl (nI_1 _) (Nat.le_of_ble_eq_true rfl) rfl ?_
        refine v_goto (tgt := 22) dX13_count_88 (by decide) ?_
        refine v_sub (L' := [(3, _), (2, _), (0, _), (1, _)]) [0, 1, 4, 5] rfl ?_
        first
        | (have e9 := ih (k + 1) (by omega); rw [kn_b0 ((hy9.resolve_left (fun r => by rw [r.1] at c_75; exact absurd c_75 (by decide))).2), ← sv_a0 (kn_b f nr k)] at e9; exact e9)
        | (have e9 := ih (k + 1) (by omega); rw [kn_b1 ((hy9.resolve_right (fun r => c_75 r.1)).2), ← nI_1 (kn_b f nr k)] at e9; exact e9)

set_option maxHeartbeats 4000000 in
set_option maxRecDepth 100000 in
theorem m_count (G : sv_G) (h : sv_h) (z m : Nat) (fs : List Value) (hlen : fs.length = 71) (hm : h m = some (.inr (11, fs))) (nl nw tn : Nat) (w : Int32) (f kf : Nat → Int32) (nr A : Nat) (f_rules : fs[18]? = some (.int (nI nr))) (f_kind : fs[19]? = some (.ref A)) (hA : ab_I G h A 40 kf) (hkf : ∀ i, i < nr → kf i = f i) (hnr : nr ≤ 20) (hne : m ≠ A) (f_latest : fs[30]? = some (.int (nI nl))) (f_waived : fs[33]? = some (.int (nI nw))) (f_length : fs[17]? = some (.int (nI tn))) (hw : ¬ (w.toInt < 0 ∨ 4 < w.toInt)) : CT G mX13_count [.ref m, .int w] h z (fun v h1 z1 => v = some (.int (if w = 0 then nI nr else if w = 1 then nI (kn_b f nr 11) else if w = 2 then nI nl else if w = 3 then nI nw else nI tn)) ∧ h1 = va_up h m (some (.inr (11, fs.set 0 (.int 0)))) ∧ z1 = z) := by
  refine CT.of (by decide +kernel) rfl rfl (Nat.le_of_ble_eq_true rfl) ?_
  refine v_aload_n dX13_count_0 rfl 0 rfl ?_
  refine v_iload_n dX13_count_1 rfl 1 rfl ?_
  refine v_if_lt (tgt := 10) dX13_count_2 (by decide) (fun c_2 => ?_) (fun c_2 => ?_)
  · exact absurd (Or.inl (by simp only [Int32.lt_iff_toInt_lt, Int32.le_iff_toInt_le, sv_i0, sv_i1, sv_i2, sv_i3, sv_i4, sv_i5, sv_i6, sv_i7, sv_i8, sv_i9, sv_i10, sv_i16, sv_i17, sv_i20, sv_i32, sv_i40, sv_i64, sv_i100, sv_i126, sv_i255, sv_i600, sv_i1500, sv_i65536, sv_im1] at *; omega)) hw
  · refine v_iload_n dX13_count_5 rfl 1 rfl ?_
    refine v_iconst (v := 4) dX13_count_6 (by decide) ?_
    refine v_icmp_le (tgt := 14) dX13_count_7 (by decide) (fun c_7 => ?_) (fun c_7 => ?_)
    · refine v_iconst (v := 0) dX13_count_14 (by decide) ?_
      refine v_putf 0 (fs' := _) (ci := 11) (C := RX13) (T := TX13) (N := 71) (ty := .int) rfl iwX13_count_X13 tyX13 tyX13_ok nmX13 (Nat.le_of_ble_eq_true rfl) (by decide +kernel) rfl rfl dX13_count_15 rfl rfl (by repeat (first | (with_reducible refine sv_us.trans ?_; exact rfl) | with_reducible assumption | with_reducible refine (sv_un (by omega)).trans ?_)) (by first | omega | (simp only [List.length_set]; omega)) rfl ?_
      refine v_iconst (v := 0) dX13_count_18 (by decide) ?_
      refine v_istore_n (L' := [(2, _), (0, _), (1, _)]) dX13_count_19 rfl (Nat.le_of_ble_eq_true rfl) rfl ?_
      refine v_iconst (v := 0) dX13_count_20 (by decide) ?_
      refine v_istore_n (L' := [(3, _), (2, _), (0, _), (1, _)]) dX13_count_21 rfl (Nat.le_of_ble_eq_true rfl) rfl ?_
      refine v_sub (L' := [(3, _), (2, _), (0, _), (1, _)]) [0, 1, 2, 3] rfl ?_
      refine l_mcnt2 G _ _ z m (fs.set 0 (.int 0)) (by rw [List.length_set]; exact hlen) sv_us w f kf nr A ((List.getElem?_set_ne (by decide)).trans f_rules) ((List.getElem?_set_ne (by decide)).trans f_kind) ((sv_un (fun q => hne q.symm)).trans hA) hkf hnr ?_ 11 0 rfl
      refine v_aload_n dX13_count_91 rfl 2 rfl ?_
      refine v_getf 0 (ci := 11) (C := RX13) (T := TX13) (N := 71) rfl iwX13_count_X13 (Nat.le_of_ble_eq_true rfl) (by decide +kernel) dX13_count_92 (by repeat (first | (with_reducible refine sv_us.trans ?_; exact rfl) | with_reducible assumption | with_reducible refine (sv_un (by omega)).trans ?_)) (by repeat (first | with_reducible assumption | (with_reducible refine (sv_ls (by first | omega | (simp only [List.length_set]; omega))).trans ?_; exact rfl) | with_reducible refine (List.getElem?_set_ne (by decide)).trans ?_)) ?_
      refine v_if_le (tgt := 102) dX13_count_95 (by decide) (fun c_95 => ?_) (fun c_95 => ?_)
      · refine v_iload_n dX13_count_102 rfl 3 rfl ?_
        refine v_if_ne (tgt := 113) dX13_count_103 (by decide) (fun c_103 => ?_) (fun c_103 => ?_)
        · refine v_iload_n dX13_count_113 rfl 3 rfl ?_
          refine v_iconst (v := 1) dX13_count_114 (by decide) ?_
          refine v_icmp_ne (tgt := 122) dX13_count_115 (by decide) (fun c_115 => ?_) (fun c_115 => ?_)
          · refine v_iload_n dX13_count_122 rfl 3 rfl ?_
            refine v_iconst (v := 2) dX13_count_123 (by decide) ?_
            refine v_icmp_ne (tgt := 134) dX13_count_124 (by decide) (fun c_124 => ?_) (fun c_124 => ?_)
            · refine v_iload_n dX13_count_134 rfl 3 rfl ?_
              refine v_iconst (v := 3) dX13_count_135 (by decide) ?_
              refine v_icmp_ne (tgt := 146) dX13_count_136 (by decide) (fun c_136 => ?_) (fun c_136 => ?_)
              · refine v_aload_n dX13_count_146 rfl 2 rfl ?_
                refine v_getf 17 (ci := 11) (C := RX13) (T := TX13) (N := 71) rfl iwX13_count_X13 (Nat.le_of_ble_eq_true rfl) (by decide +kernel) dX13_count_147 (by repeat (first | (with_reducible refine sv_us.trans ?_; exact rfl) | with_reducible assumption | with_reducible refine (sv_un (by omega)).trans ?_)) (by repeat (first | with_reducible assumption | (with_reducible refine (sv_ls (by first | omega | (simp only [List.length_set]; omega))).trans ?_; exact rfl) | with_reducible refine (List.getElem?_set_ne (by decide)).trans ?_)) ?_
                exact v_iret rfl dX13_count_150 (Nat.le_of_ble_eq_true rfl) (Nat.le_of_ble_eq_true rfl) rfl ⟨(by first | (rw [if_pos c_103]) | (rw [if_neg c_103, if_pos c_115]) | (rw [if_neg c_103, if_neg c_115, if_pos c_124]) | (rw [if_neg c_103, if_neg c_115, if_neg c_124, if_pos c_136]) | (rw [if_neg c_103, if_neg c_115, if_neg c_124, if_neg c_136])), rfl, rfl⟩
              · refine v_aload_n dX13_count_139 rfl 2 rfl ?_
                refine v_getf 33 (ci := 11) (C := RX13) (T := TX13) (N := 71) rfl iwX13_count_X13 (Nat.le_of_ble_eq_true rfl) (by decide +kernel) dX13_count_140 (by repeat (first | (with_reducible refine sv_us.trans ?_; exact rfl) | with_reducible assumption | with_reducible refine (sv_un (by omega)).trans ?_)) (by repeat (first | with_reducible assumption | (with_reducible refine (sv_ls (by first | omega | (simp only [List.length_set]; omega))).trans ?_; exact rfl) | with_reducible refine (List.getElem?_set_ne (by decide)).trans ?_)) ?_
                refine v_goto (tgt := 150) dX13_count_143 (by decide) ?_
                exact v_iret rfl dX13_count_150 (Nat.le_of_ble_eq_true rfl) (Nat.le_of_ble_eq_true rfl) rfl ⟨(by first | (rw [if_pos c_103]) | (rw [if_neg c_103, if_pos c_115]) | (rw [if_neg c_103, if_neg c_115, if_pos c_124]) | (rw [if_neg c_103, if_neg c_115, if_neg c_124, if_pos c_136]) | (rw [if_neg c_103, if_neg c_115, if_neg c_124, if_neg c_136])), rfl, rfl⟩
            · refine v_aload_n dX13_count_127 rfl 2 rfl ?_
              refine v_getf 30 (ci := 11) (C := RX13) (T := TX13) (N := 71) rfl iwX13_count_X13 (Nat.le_of_ble_eq_true rfl) (by decide +kernel) dX13_count_128 (by repeat (first | (with_reducible refine sv_us.trans ?_; exact rfl) | with_reducible assumption | with_reducible refine (sv_un (by omega)).trans ?_)) (by repeat (first | with_reducible assumption | (with_reducible refine (sv_ls (by first | omega | (simp only [List.length_set]; omega))).trans ?_; exact rfl) | with_reducible refine (List.getElem?_set_ne (by decide)).trans ?_)) ?_
              refine v_goto (tgt := 150) dX13_count_131 (by decide) ?_
              exact v_iret rfl dX13_count_150 (Nat.le_of_ble_eq_true rfl) (Nat.le_of_ble_eq_true rfl) rfl ⟨(by first | (rw [if_pos c_103]) | (rw [if_neg c_103, if_pos c_115]) | (rw [if_neg c_103, if_neg c_115, if_pos c_124]) | (rw [if_neg c_103, if_neg c_115, if_neg c_124, if_pos c_136]) | (rw [if_neg c_103, if_neg c_115, if_neg c_124, if_neg c_136])), rfl, rfl⟩
          · refine v_iload_n dX13_count_118 rfl 1 rfl ?_
            refine v_goto (tgt := 150) dX13_count_119 (by decide) ?_
            exact v_iret rfl dX13_count_150 (Nat.le_of_ble_eq_true rfl) (Nat.le_of_ble_eq_true rfl) rfl ⟨(by first | (rw [if_pos c_103]) | (rw [if_neg c_103, if_pos c_115]) | (rw [if_neg c_103, if_neg c_115, if_pos c_124]) | (rw [if_neg c_103, if_neg c_115, if_neg c_124, if_pos c_136]) | (rw [if_neg c_103, if_neg c_115, if_neg c_124, if_neg c_136])), rfl, rfl⟩
        · refine v_aload_n dX13_count_106 rfl 2 rfl ?_
          refine v_getf 18 (ci := 11) (C := RX13) (T := TX13) (N := 71) rfl iwX13_count_X13 (Nat.le_of_ble_eq_true rfl) (by decide +kernel) dX13_count_107 (by repeat (first | (with_reducible refine sv_us.trans ?_; exact rfl) | with_reducible assumption | with_reducible refine (sv_un (by omega)).trans ?_)) (by repeat (first | with_reducible assumption | (with_reducible refine (sv_ls (by first | omega | (simp only [List.length_set]; omega))).trans ?_; exact rfl) | with_reducible refine (List.getElem?_set_ne (by decide)).trans ?_)) ?_
          refine v_goto (tgt := 150) dX13_count_110 (by decide) ?_
          exact v_iret rfl dX13_count_150 (Nat.le_of_ble_eq_true rfl) (Nat.le_of_ble_eq_true rfl) rfl ⟨(by first | (rw [if_pos c_103]) | (rw [if_neg c_103, if_pos c_115]) | (rw [if_neg c_103, if_neg c_115, if_pos c_124]) | (rw [if_neg c_103, if_neg c_115, if_neg c_124, if_pos c_136]) | (rw [if_neg c_103, if_neg c_115, if_neg c_124, if_neg c_136])), rfl, rfl⟩
      · exact absurd (by decide) c_95
    · exact absurd (Or.inr (by simp only [Int32.lt_iff_toInt_lt, Int32.le_iff_toInt_le, sv_i0, sv_i1, sv_i2, sv_i3, sv_i4, sv_i5, sv_i6, sv_i7, sv_i8, sv_i9, sv_i10, sv_i16, sv_i17, sv_i20, sv_i32, sv_i40, sv_i64, sv_i100, sv_i126, sv_i255, sv_i600, sv_i1500, sv_i65536, sv_im1] at *; omega)) hw

set_option maxHeartbeats 4000000 in
set_option maxRecDepth 100000 in
theorem m_count_o (G : sv_G) (h : sv_h) (z m : Nat) (fs : List Value) (hlen : fs.length = 71) (hm : h m = some (.inr (11, fs))) (nl nw tn : Nat) (w : Int32) (f kf : Nat → Int32) (nr A : Nat) (f_rules : fs[18]? = some (.int (nI nr))) (f_kind : fs[19]? = some (.ref A)) (hA : ab_I G h A 40 kf) (hkf : ∀ i, i < nr → kf i = f i) (hnr : nr ≤ 20) (hne : m ≠ A) (f_latest : fs[30]? = some (.int (nI nl))) (f_waived : fs[33]? = some (.int (nI nw))) (f_length : fs[17]? = some (.int (nI tn))) (hw : w.toInt < 0 ∨ 4 < w.toInt) : CT G mX13_count [.ref m, .int w] h z (fun v h1 z1 => v = some (.int 0) ∧ h1 = va_up h m (some (.inr (11, fs.set 0 (.int 1)))) ∧ z1 = z) := by
  refine CT.of (by decide +kernel) rfl rfl (Nat.le_of_ble_eq_true rfl) ?_
  refine v_aload_n dX13_count_0 rfl 0 rfl ?_
  refine v_iload_n dX13_count_1 rfl 1 rfl ?_
  refine v_if_lt (tgt := 10) dX13_count_2 (by decide) (fun c_2 => ?_) (fun c_2 => ?_)
  · refine v_iconst (v := 1) dX13_count_10 (by decide) ?_
    refine v_goto (tgt := 15) dX13_count_11 (by decide) ?_
    refine v_putf 0 (fs' := _) (ci := 11) (C := RX13) (T := TX13) (N := 71) (ty := .int) rfl iwX13_count_X13 tyX13 tyX13_ok nmX13 (Nat.le_of_ble_eq_true rfl) (by decide +kernel) rfl rfl dX13_count_15 rfl rfl (by repeat (first | (with_reducible refine sv_us.trans ?_; exact rfl) | with_reducible assumption | with_reducible refine (sv_un (by omega)).trans ?_)) (by first | omega | (simp only [List.length_set]; omega)) rfl ?_
    refine v_iconst (v := 0) dX13_count_18 (by decide) ?_
    refine v_istore_n (L' := [(2, _), (0, _), (1, _)]) dX13_count_19 rfl (Nat.le_of_ble_eq_true rfl) rfl ?_
    refine v_iconst (v := 0) dX13_count_20 (by decide) ?_
    refine v_istore_n (L' := [(3, _), (2, _), (0, _), (1, _)]) dX13_count_21 rfl (Nat.le_of_ble_eq_true rfl) rfl ?_
    refine v_sub (L' := [(3, _), (2, _), (0, _), (1, _)]) [0, 1, 2, 3] rfl ?_
    refine l_mcnt2 G _ _ z m (fs.set 0 (.int 1)) (by rw [List.length_set]; exact hlen) sv_us w f kf nr A ((List.getElem?_set_ne (by decide)).trans f_rules) ((List.getElem?_set_ne (by decide)).trans f_kind) ((sv_un (fun q => hne q.symm)).trans hA) hkf hnr ?_ 11 0 rfl
    refine v_aload_n dX13_count_91 rfl 2 rfl ?_
    refine v_getf 0 (ci := 11) (C := RX13) (T := TX13) (N := 71) rfl iwX13_count_X13 (Nat.le_of_ble_eq_true rfl) (by decide +kernel) dX13_count_92 (by repeat (first | (with_reducible refine sv_us.trans ?_; exact rfl) | with_reducible assumption | with_reducible refine (sv_un (by omega)).trans ?_)) (by repeat (first | with_reducible assumption | (with_reducible refine (sv_ls (by first | omega | (simp only [List.length_set]; omega))).trans ?_; exact rfl) | with_reducible refine (List.getElem?_set_ne (by decide)).trans ?_)) ?_
    refine v_if_le (tgt := 102) dX13_count_95 (by decide) (fun c_95 => ?_) (fun c_95 => ?_)
    · exact absurd c_95 (by decide)
    · refine v_iconst (v := 0) dX13_count_98 (by decide) ?_
      refine v_goto (tgt := 150) dX13_count_99 (by decide) ?_
      exact v_iret rfl dX13_count_150 (Nat.le_of_ble_eq_true rfl) (Nat.le_of_ble_eq_true rfl) rfl ⟨rfl, rfl, rfl⟩
  · refine v_iload_n dX13_count_5 rfl 1 rfl ?_
    refine v_iconst (v := 4) dX13_count_6 (by decide) ?_
    refine v_icmp_le (tgt := 14) dX13_count_7 (by decide) (fun c_7 => ?_) (fun c_7 => ?_)
    · exact absurd hw (by simp only [Int32.lt_iff_toInt_lt, Int32.le_iff_toInt_le, sv_i0, sv_i1, sv_i2, sv_i3, sv_i4, sv_i5, sv_i6, sv_i7, sv_i8, sv_i9, sv_i10, sv_i16, sv_i17, sv_i20, sv_i32, sv_i40, sv_i64, sv_i100, sv_i126, sv_i255, sv_i600, sv_i1500, sv_i65536, sv_im1] at *; omega)
    · refine v_iconst (v := 1) dX13_count_10 (by decide) ?_
      refine v_goto (tgt := 15) dX13_count_11 (by decide) ?_
      refine v_putf 0 (fs' := _) (ci := 11) (C := RX13) (T := TX13) (N := 71) (ty := .int) rfl iwX13_count_X13 tyX13 tyX13_ok nmX13 (Nat.le_of_ble_eq_true rfl) (by decide +kernel) rfl rfl dX13_count_15 rfl rfl (by repeat (first | (with_reducible refine sv_us.trans ?_; exact rfl) | with_reducible assumption | with_reducible refine (sv_un (by omega)).trans ?_)) (by first | omega | (simp only [List.length_set]; omega)) rfl ?_
      refine v_iconst (v := 0) dX13_count_18 (by decide) ?_
      refine v_istore_n (L' := [(2, _), (0, _), (1, _)]) dX13_count_19 rfl (Nat.le_of_ble_eq_true rfl) rfl ?_
      refine v_iconst (v := 0) dX13_count_20 (by decide) ?_
      refine v_istore_n (L' := [(3, _), (2, _), (0, _), (1, _)]) dX13_count_21 rfl (Nat.le_of_ble_eq_true rfl) rfl ?_
      refine v_sub (L' := [(3, _), (2, _), (0, _), (1, _)]) [0, 1, 2, 3] rfl ?_
      refine l_mcnt2 G _ _ z m (fs.set 0 (.int 1)) (by rw [List.length_set]; exact hlen) sv_us w f kf nr A ((List.getElem?_set_ne (by decide)).trans f_rules) ((List.getElem?_set_ne (by decide)).trans f_kind) ((sv_un (fun q => hne q.symm)).trans hA) hkf hnr ?_ 11 0 rfl
      refine v_aload_n dX13_count_91 rfl 2 rfl ?_
      refine v_getf 0 (ci := 11) (C := RX13) (T := TX13) (N := 71) rfl iwX13_count_X13 (Nat.le_of_ble_eq_true rfl) (by decide +kernel) dX13_count_92 (by repeat (first | (with_reducible refine sv_us.trans ?_; exact rfl) | with_reducible assumption | with_reducible refine (sv_un (by omega)).trans ?_)) (by repeat (first | with_reducible assumption | (with_reducible refine (sv_ls (by first | omega | (simp only [List.length_set]; omega))).trans ?_; exact rfl) | with_reducible refine (List.getElem?_set_ne (by decide)).trans ?_)) ?_
      refine v_if_le (tgt := 102) dX13_count_95 (by decide) (fun c_95 => ?_) (fun c_95 => ?_)
      · exact absurd c_95 (by decide)
      · refine v_iconst (v := 0) dX13_count_98 (by decide) ?_
        refine v_goto (tgt := 150) dX13_count_99 (by decide) ?_
        exact v_iret rfl dX13_count_150 (Nat.le_of_ble_eq_true rfl) (Nat.le_of_ble_eq_true rfl) rfl ⟨rfl, rfl, rfl⟩

theorem g_count (G : sv_G) (hl0 : G.1.stackTraces = false) (hki : sv_ki G) (b : Nat) (w0 : Int32) : OpI G mX12_count mX13_count b (b + 220) (b + 261) ["java/lang/IndexOutOfBoundsException"] [.int w0] (ab_Inv G b) (ab_Inv G b) := by
  refine OpI.of fun h z hi => ?_
  obtain ⟨k, nc, np, pl, sz, t, u, pa, ma, tn, tp, nr, r, ru, rd, nl, lr, la, fo, fl, nw, wr, lX, lq, lf, mf, fs, ⟨gok, gLay, gAd, gML⟩, ⟨gTp, gMTp⟩, ⟨gRu, gRd, gRl, gRr, gMR⟩, ⟨gLa, gFo, gFl, gLo, gMLa⟩, ⟨gWv, gMWv⟩, ⟨gDk, glq, gmf, glf⟩, ⟨gm, gfs⟩, ⟨gCk, gSc, go⟩⟩ := id hi
  obtain ⟨gru, i1, i2, i3, i4, i5, i6, i7, i8, i9, gla, gfo, gfl⟩ := id gDk.2
  have gz := gAd.1
  obtain ⟨f0, ho⟩ := id go
  obtain ⟨hnl, xx, ro, od, st, us, ov, hm0, w, ⟨y0, y1, y2, y3, y4⟩, y5⟩ := id gLa
  obtain ⟨fm, y6, y7⟩ := id gMLa
  obtain ⟨t1, t2, ⟨ft, t3, t4⟩, t5⟩ := id gTp
  obtain ⟨hn, v1, v2⟩ := id gWv
  obtain ⟨fr, r1, r2⟩ := id gRu
  obtain ⟨hnr, r3⟩ := id gRl
  obtain ⟨⟨kf, k1, k2⟩, k3⟩ := id gMR
  have hr3 : ∀ i, i < nr → ∃ kd, kd < 11 ∧ r 0 i = nI kd ∧ ∃ (nm : Int64) (x1 x2 x3 x4 x5 x6 : Int32), h (ru + 1 + i) = some (.inr (5, [.long nm, .ref (G.2.2.2.2.1 kd), .int x1, .int x2, .int x3, .int x4, .int x5, .int x6])) := by
    intro i hi'
    obtain ⟨nm, kd, e1, e2, e3⟩ := r3 i hi'
    exact ⟨kd, e1, e2, nm, _, _, _, _, _, _, e3⟩
  have hab := kn_ab (fun i => r 0 i) nr (fun i hi' => by obtain ⟨kd, e1, e2, _⟩ := hr3 i hi'; exact ⟨kd, e1, e2⟩)
  have hc := c_count G hl0 hki h z b nr nl nw tn w0 (fun i => r 0 i) (ru + 1) ru fr r1 (fun j hj => (r2 j hj).1) hnr hr3 _ _ _ _ _ _ _ _ _ _ _ gDk.1 _ _ _ _ _ _ y1 _ _ v1 _ t2
  by_cases hw : w0.toInt < 0 ∨ 4 < w0.toInt
  · exact at_refI 0 hi rfl (hc.mono (fun _ _ _ _ q => absurd hw q.1) (fun _ _ _ _ q => q.2)) gm gfs.1 (fun z1 => m_count_o G _ _ _ _ gfs.1 gm nl nw tn w0 (fun i => r 0 i) kf nr (b + 233) gfs.f_rules gfs.f_kind k1 k2 hnr (by omega) gfs.f_latest gfs.f_waived gfs.f_length hw)
  · refine at_purI hi (hc.mono (fun _ _ _ _ q => q.2) (fun _ _ _ _ q => hw q.1)) gm gfs.1 (fun h2 e3 => ?_)
    have e := m_count G h2 z _ _ gfs.1 ((e3 _ (by omega)).trans gm) nl nw tn w0 (fun i => r 0 i) kf nr (b + 233) gfs.f_rules gfs.f_kind ((e3 _ (by omega)).trans k1) k2 hnr (by omega) gfs.f_latest gfs.f_waived gfs.f_length hw
    rw [hab] at e
    exact e
