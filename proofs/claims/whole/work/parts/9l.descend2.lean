theorem dP_nil {F : Nat → List (List Nat × Nat)} {n : Nat} (h : ∀ i, F i = []) : dP n F = [] := by
  induction n with
  | zero => rfl
  | succ n ih => rw [dP_s, ih, h]; rfl
theorem dS_s (np pl : Nat) (Q : Nat → Nat → Bool) (p3 p4 : Nat → Nat) (f c : Nat) (w : List Nat) : dS np pl Q p3 p4 (f + 1) c w = dO np Q c w ++ dP pl (fun i => if p3 i = c then dS np pl Q p3 p4 f (p4 i) (w ++ [i]) else []) := rfl
set_option maxHeartbeats 4000000 in
set_option maxRecDepth 100000 in
theorem t_76o (G : sv_G) (Qr : Option Value → sv_h → Nat → Prop) (h0 : sv_h) (z b : Nat) (k : Int32) (nc np pl : Nat) (R : Nat → Bool) (hm p3 p4 pa ma sz : Nat → Nat) (ly vo ar : Nat → Int32) (mp : Nat → mvT) (N : Nat → Nat) (X : sx_ G h0 b k nc np pl R hm p3 p4 pa ma sz ly vo ar mp N) (q : Nat) (hqa : q < b + 35 ∨ b + 164 ≤ q) (n0 : Int64) (kd : Nat) (hkd : kd < 11) (l1 l2 x3 x4 x5 x6 : Int32) (hru : h0 q = some (.inr (5, [.long n0, .ref (G.2.2.2.2.1 kd), .int l1, .int l2, .int x3, .int x4, .int x5, .int x6]))) (hone : kd < 7 ∧ kd ≠ 5 ∧ kd ≠ 6) (f : Nat) (w : List Nat) (hw : w.length < 16) (c : Nat) (hc : c < nc) (S : List (List Nat × Nat)) (h : sv_h) (H : sc_ G b mp h0 h w S) (hk : ∀ h1, sc_ G b mp h0 h1 w S → Qr none h1 z) : V G (mDs f) (sv_MQ G (mDs f) Qr) 76 [(4, .ref q), (3, .int (brn w)), (2, .int (nI w.length)), (1, .int (nI c)), (0, .ref (b + 35))] [] h z 0 0 := by
  obtain ⟨s0, s1, ⟨fs, s2, s3⟩, ⟨fb, s4, s5⟩, ⟨fp, s6, s7⟩, ⟨fl, s8, s9⟩, sA, sB, sC, sD, sF⟩ := id H
  obtain ⟨g1, ⟨f2, g2, g2a⟩, ⟨f3, g3, g3a⟩, ⟨f4, g4, g4a⟩, ⟨f5, g5, g5a⟩, ⟨f6, g6, g6a⟩, gp, gm, gn, gnp, gpl⟩ := id X
  have r1 := (sF (b + 1) (by omega) (by omega)).trans g1
  have r2 : ab_Q G h (b + 2) 4 64 f2 := (sF (b + 2) (by omega) (by omega)).trans g2
  have r3 : ab_I G h (b + 3) 32 f3 := (sF (b + 3) (by omega) (by omega)).trans g3
  have r4 : ab_I G h (b + 4) 32 f4 := (sF (b + 4) (by omega) (by omega)).trans g4
  have r5 : ab_Q G h (b + 5) 3 32 f5 := (sF (b + 5) (by omega) (by omega)).trans g5
  have r6 : ab_I G h (b + 6) 16 f6 := (sF (b + 6) (by omega) (by omega)).trans g6
  have rq := (sF q (by omega) (by omega)).trans hru
  refine v_aload dX8_descend_76 0 rfl ?_
  refine v_getf 1 (ci := 5) (C := RX7) (T := TX7) (N := 8) rfl iwX8_descend_X7 (Nat.le_of_ble_eq_true rfl) (by first | decide +kernel | (change Cond.fieldLink RX8 _ _ _ _ ∈ wsX8_descend; decide +kernel)) dX8_descend_78 (by first | with_reducible assumption) rfl ?_
  refine v_kint (q := ("RuleDeck$Kind", "layers", "I", [1, 1, 1, 1, 1, 1, 1, 2, 2, 2, 2])) hkd (by decide) (k_lay kd hkd) (by first | decide +kernel | (change Cond.fieldLink RX8 _ _ _ _ ∈ wsX8_descend; decide +kernel)) dX8_descend_81 ?_
  refine v_iconst (v := 1) dX8_descend_84 (by decide) ?_
  refine v_icmp_ne (tgt := 103) dX8_descend_85 (by decide) (fun c_85 => ?_) (fun c_85 => ?_)
  · exact absurd (if_pos (show kd < 7 by omega)) c_85
  · refine v_aload dX8_descend_88 0 rfl ?_
    refine v_getf 1 (ci := 5) (C := RX7) (T := TX7) (N := 8) rfl iwX8_descend_X7 (Nat.le_of_ble_eq_true rfl) (by first | decide +kernel | (change Cond.fieldLink RX8 _ _ _ _ ∈ wsX8_descend; decide +kernel)) dX8_descend_90 (by first | with_reducible assumption) rfl ?_
    refine v_kint (q := ("RuleDeck$Kind", "whole", "Z", [0, 0, 0, 0, 0, 1, 1, 0, 0, 0, 0])) hkd (by decide) (k_who kd hkd) (by first | decide +kernel | (change Cond.fieldLink RX8 _ _ _ _ ∈ wsX8_descend; decide +kernel)) dX8_descend_93 ?_
    refine v_if_ne (tgt := 103) dX8_descend_96 (by decide) (fun c_96 => ?_) (fun c_96 => ?_)
    · exact absurd (if_neg (show ¬ (kd = 5 ∨ kd = 6) by omega)) c_96
    · refine v_iconst (v := 1) dX8_descend_99 (by decide) ?_
      refine v_goto (tgt := 104) dX8_descend_100 (by decide) ?_
      refine v_istore (L' := [(5, _), (4, _), (3, _), (2, _), (1, _), (0, _)]) dX8_descend_104 (Nat.le_of_ble_eq_true rfl) rfl ?_
      refine v_iload dX8_descend_106 0 rfl ?_
      refine v_if_ne (tgt := 122) dX8_descend_108 (by decide) (fun c_108 => ?_) (fun c_108 => ?_)
      · exact v_ret rfl dX8_descend_122 (Nat.le_of_ble_eq_true rfl) (Nat.le_of_ble_eq_true rfl) (hk h H)
      · exact absurd c_108 (by decide)

set_option maxHeartbeats 4000000 in
set_option maxRecDepth 100000 in
theorem t_76z (G : sv_G) (Qr : Option Value → sv_h → Nat → Prop) (h0 : sv_h) (z b : Nat) (k : Int32) (nc np pl : Nat) (R : Nat → Bool) (hm p3 p4 pa ma sz : Nat → Nat) (ly vo ar : Nat → Int32) (mp : Nat → mvT) (N : Nat → Nat) (X : sx_ G h0 b k nc np pl R hm p3 p4 pa ma sz ly vo ar mp N) (q : Nat) (hqa : q < b + 35 ∨ b + 164 ≤ q) (n0 : Int64) (kd : Nat) (hkd : kd < 11) (l1 l2 x3 x4 x5 x6 : Int32) (hru : h0 q = some (.inr (5, [.long n0, .ref (G.2.2.2.2.1 kd), .int l1, .int l2, .int x3, .int x4, .int x5, .int x6]))) (hmany : ¬ (kd < 7 ∧ kd ≠ 5 ∧ kd ≠ 6)) (hN : ∀ r c, r ≤ 16 → c < nc → oc_n np pl R hm p3 p4 r c ≤ N c) (w : List Nat) (hw : w.length + (0 + 1) = 16) (c : Nat) (hc : c < nc) (S : List (List Nat × Nat)) (hS : S.length + (dS np pl (dQ R hm ly kd l1 l2) p3 p4 (0 + 1) c w).length ≤ 100)  (h : sv_h) (H : sc_ G b mp h0 h w (S ++ dO np (dQ R hm ly kd l1 l2) c w)) (hk : ∀ h1, sc_ G b mp h0 h1 w (S ++ dS np pl (dQ R hm ly kd l1 l2) p3 p4 (0 + 1) c w) → Qr none h1 z) : V G (mDs 0) (sv_MQ G (mDs 0) Qr) 76 [(4, .ref q), (3, .int (brn w)), (2, .int (nI w.length)), (1, .int (nI c)), (0, .ref (b + 35))] [] h z 0 0 := by
  obtain ⟨s0, s1, ⟨fs, s2, s3⟩, ⟨fb, s4, s5⟩, ⟨fp, s6, s7⟩, ⟨fl, s8, s9⟩, sA, sB, sC, sD, sF⟩ := id H
  obtain ⟨g1, ⟨f2, g2, g2a⟩, ⟨f3, g3, g3a⟩, ⟨f4, g4, g4a⟩, ⟨f5, g5, g5a⟩, ⟨f6, g6, g6a⟩, gp, gm, gn, gnp, gpl⟩ := id X
  have r1 := (sF (b + 1) (by omega) (by omega)).trans g1
  have r2 : ab_Q G h (b + 2) 4 64 f2 := (sF (b + 2) (by omega) (by omega)).trans g2
  have r3 : ab_I G h (b + 3) 32 f3 := (sF (b + 3) (by omega) (by omega)).trans g3
  have r4 : ab_I G h (b + 4) 32 f4 := (sF (b + 4) (by omega) (by omega)).trans g4
  have r5 : ab_Q G h (b + 5) 3 32 f5 := (sF (b + 5) (by omega) (by omega)).trans g5
  have r6 : ab_I G h (b + 6) 16 f6 := (sF (b + 6) (by omega) (by omega)).trans g6
  have rq := (sF q (by omega) (by omega)).trans hru
  refine v_aload dX8_descend_76 0 rfl ?_
  refine v_getf 1 (ci := 5) (C := RX7) (T := TX7) (N := 8) rfl iwX8_descend_X7 (Nat.le_of_ble_eq_true rfl) (by first | decide +kernel | (change Cond.fieldLink RX8 _ _ _ _ ∈ wsX8_descend; decide +kernel)) dX8_descend_78 (by first | with_reducible assumption) rfl ?_
  refine v_kint (q := ("RuleDeck$Kind", "layers", "I", [1, 1, 1, 1, 1, 1, 1, 2, 2, 2, 2])) hkd (by decide) (k_lay kd hkd) (by first | decide +kernel | (change Cond.fieldLink RX8 _ _ _ _ ∈ wsX8_descend; decide +kernel)) dX8_descend_81 ?_
  refine v_iconst (v := 1) dX8_descend_84 (by decide) ?_
  refine v_icmp_ne (tgt := 103) dX8_descend_85 (by decide) (fun c_85 => ?_) (fun c_85 => ?_)
  · refine v_iconst (v := 0) dX8_descend_103 (by decide) ?_
    refine v_istore (L' := [(5, _), (4, _), (3, _), (2, _), (1, _), (0, _)]) dX8_descend_104 (Nat.le_of_ble_eq_true rfl) rfl ?_
    refine v_iload dX8_descend_106 0 rfl ?_
    refine v_if_ne (tgt := 122) dX8_descend_108 (by decide) (fun c_108 => ?_) (fun c_108 => ?_)
    · exact absurd rfl c_108
    · refine v_iload_n dX8_descend_111 rfl 3 rfl ?_
      refine v_iconst (v := 1) dX8_descend_112 (by decide) ?_
      refine v_iadd dX8_descend_113 ?_
      rw [nI_1]
      refine v_aload_n dX8_descend_114 rfl 5 rfl ?_
      refine v_getf 1 (ci := 6) (C := RX8) (T := TX8) (N := 14) rfl iwX8_descend_X8 (Nat.le_of_ble_eq_true rfl) (by first | decide +kernel | (change Cond.fieldLink RX8 _ _ _ _ ∈ wsX8_descend; decide +kernel)) dX8_descend_115 (by first | with_reducible assumption) rfl ?_
      refine v_alen (t := 3) dX8_descend_118 (fun _ => rfl) (by first | with_reducible assumption) rfl ?_
      refine v_icmp_lt (tgt := 123) dX8_descend_119 (by decide) (fun c_119 => ?_) (fun c_119 => ?_)
      · exact absurd c_119 (nI_nlt (a := w.length + 1) (b := 16) (by omega) (by omega))
      · exact v_ret rfl dX8_descend_122 (Nat.le_of_ble_eq_true rfl) (Nat.le_of_ble_eq_true rfl) (hk h (by rw [dS_s, dP_nil (fun i => by split <;> rfl), List.append_nil]; exact H))
  · refine v_aload dX8_descend_88 0 rfl ?_
    refine v_getf 1 (ci := 5) (C := RX7) (T := TX7) (N := 8) rfl iwX8_descend_X7 (Nat.le_of_ble_eq_true rfl) (by first | decide +kernel | (change Cond.fieldLink RX8 _ _ _ _ ∈ wsX8_descend; decide +kernel)) dX8_descend_90 (by first | with_reducible assumption) rfl ?_
    refine v_kint (q := ("RuleDeck$Kind", "whole", "Z", [0, 0, 0, 0, 0, 1, 1, 0, 0, 0, 0])) hkd (by decide) (k_who kd hkd) (by first | decide +kernel | (change Cond.fieldLink RX8 _ _ _ _ ∈ wsX8_descend; decide +kernel)) dX8_descend_93 ?_
    refine v_if_ne (tgt := 103) dX8_descend_96 (by decide) (fun c_96 => ?_) (fun c_96 => ?_)
    · refine v_iconst (v := 0) dX8_descend_103 (by decide) ?_
      refine v_istore (L' := [(5, _), (4, _), (3, _), (2, _), (1, _), (0, _)]) dX8_descend_104 (Nat.le_of_ble_eq_true rfl) rfl ?_
      refine v_iload dX8_descend_106 0 rfl ?_
      refine v_if_ne (tgt := 122) dX8_descend_108 (by decide) (fun c_108 => ?_) (fun c_108 => ?_)
      · exact absurd rfl c_108
      · refine v_iload_n dX8_descend_111 rfl 3 rfl ?_
        refine v_iconst (v := 1) dX8_descend_112 (by decide) ?_
        refine v_iadd dX8_descend_113 ?_
        rw [nI_1]
        refine v_aload_n dX8_descend_114 rfl 5 rfl ?_
        refine v_getf 1 (ci := 6) (C := RX8) (T := TX8) (N := 14) rfl iwX8_descend_X8 (Nat.le_of_ble_eq_true rfl) (by first | decide +kernel | (change Cond.fieldLink RX8 _ _ _ _ ∈ wsX8_descend; decide +kernel)) dX8_descend_115 (by first | with_reducible assumption) rfl ?_
        refine v_alen (t := 3) dX8_descend_118 (fun _ => rfl) (by first | with_reducible assumption) rfl ?_
        refine v_icmp_lt (tgt := 123) dX8_descend_119 (by decide) (fun c_119 => ?_) (fun c_119 => ?_)
        · exact absurd c_119 (nI_nlt (a := w.length + 1) (b := 16) (by omega) (by omega))
        · exact v_ret rfl dX8_descend_122 (Nat.le_of_ble_eq_true rfl) (Nat.le_of_ble_eq_true rfl) (hk h (by rw [dS_s, dP_nil (fun i => by split <;> rfl), List.append_nil]; exact H))
    · exact absurd c_96 (by rw [if_pos (show kd = 5 ∨ kd = 6 from by have c9 : kd < 7 := (by by_cases q9 : kd < 7; exact q9; rw [if_neg q9] at c_85; exact absurd c_85 (by decide)); omega)]; decide)

set_option maxHeartbeats 4000000 in
set_option maxRecDepth 100000 in
theorem t_76s (G : sv_G) (Qr : Option Value → sv_h → Nat → Prop) (h0 : sv_h) (z b : Nat) (k : Int32) (nc np pl : Nat) (R : Nat → Bool) (hm p3 p4 pa ma sz : Nat → Nat) (ly vo ar : Nat → Int32) (mp : Nat → mvT) (N : Nat → Nat) (X : sx_ G h0 b k nc np pl R hm p3 p4 pa ma sz ly vo ar mp N) (q : Nat) (hqa : q < b + 35 ∨ b + 164 ≤ q) (n0 : Int64) (kd : Nat) (hkd : kd < 11) (l1 l2 x3 x4 x5 x6 : Int32) (hru : h0 q = some (.inr (5, [.long n0, .ref (G.2.2.2.2.1 kd), .int l1, .int l2, .int x3, .int x4, .int x5, .int x6]))) (hmany : ¬ (kd < 7 ∧ kd ≠ 5 ∧ kd ≠ 6)) (hN : ∀ r c, r ≤ 16 → c < nc → oc_n np pl R hm p3 p4 r c ≤ N c) (f : Nat) (w : List Nat) (hw : w.length + ((f + 1) + 1) = 16) (c : Nat) (hc : c < nc) (S : List (List Nat × Nat)) (hS : S.length + (dS np pl (dQ R hm ly kd l1 l2) p3 p4 ((f + 1) + 1) c w).length ≤ 100) (IH : ∀ (w : List Nat) (c : Nat) (S : List (List Nat × Nat)) (h : sv_h), w.length + (f + 1) = 16 → c < nc → sc_ G b mp h0 h w S → S.length + (dS np pl (dQ R hm ly kd l1 l2) p3 p4 (f + 1) c w).length ≤ 100 → CT G (mDs f) [.ref (b + 35), .int (nI c), .int (nI w.length), .int (brn w), .ref q] h z (fun v h1 z1 => v = none ∧ z1 = z ∧ sc_ G b mp h0 h1 w (S ++ dS np pl (dQ R hm ly kd l1 l2) p3 p4 (f + 1) c w))) (h : sv_h) (H : sc_ G b mp h0 h w (S ++ dO np (dQ R hm ly kd l1 l2) c w)) (hk : ∀ h1, sc_ G b mp h0 h1 w (S ++ dS np pl (dQ R hm ly kd l1 l2) p3 p4 ((f + 1) + 1) c w) → Qr none h1 z) : V G (mDs (f + 1)) (sv_MQ G (mDs (f + 1)) Qr) 76 [(4, .ref q), (3, .int (brn w)), (2, .int (nI w.length)), (1, .int (nI c)), (0, .ref (b + 35))] [] h z 0 0 := by
  obtain ⟨s0, s1, ⟨fs, s2, s3⟩, ⟨fb, s4, s5⟩, ⟨fp, s6, s7⟩, ⟨fl, s8, s9⟩, sA, sB, sC, sD, sF⟩ := id H
  obtain ⟨g1, ⟨f2, g2, g2a⟩, ⟨f3, g3, g3a⟩, ⟨f4, g4, g4a⟩, ⟨f5, g5, g5a⟩, ⟨f6, g6, g6a⟩, gp, gm, gn, gnp, gpl⟩ := id X
  have r1 := (sF (b + 1) (by omega) (by omega)).trans g1
  have r2 : ab_Q G h (b + 2) 4 64 f2 := (sF (b + 2) (by omega) (by omega)).trans g2
  have r3 : ab_I G h (b + 3) 32 f3 := (sF (b + 3) (by omega) (by omega)).trans g3
  have r4 : ab_I G h (b + 4) 32 f4 := (sF (b + 4) (by omega) (by omega)).trans g4
  have r5 : ab_Q G h (b + 5) 3 32 f5 := (sF (b + 5) (by omega) (by omega)).trans g5
  have r6 : ab_I G h (b + 6) 16 f6 := (sF (b + 6) (by omega) (by omega)).trans g6
  have rq := (sF q (by omega) (by omega)).trans hru
  refine v_aload dX8_descend_76 0 rfl ?_
  refine v_getf 1 (ci := 5) (C := RX7) (T := TX7) (N := 8) rfl iwX8_descend_X7 (Nat.le_of_ble_eq_true rfl) (by first | decide +kernel | (change Cond.fieldLink RX8 _ _ _ _ ∈ wsX8_descend; decide +kernel)) dX8_descend_78 (by first | with_reducible assumption) rfl ?_
  refine v_kint (q := ("RuleDeck$Kind", "layers", "I", [1, 1, 1, 1, 1, 1, 1, 2, 2, 2, 2])) hkd (by decide) (k_lay kd hkd) (by first | decide +kernel | (change Cond.fieldLink RX8 _ _ _ _ ∈ wsX8_descend; decide +kernel)) dX8_descend_81 ?_
  refine v_iconst (v := 1) dX8_descend_84 (by decide) ?_
  refine v_icmp_ne (tgt := 103) dX8_descend_85 (by decide) (fun c_85 => ?_) (fun c_85 => ?_)
  · refine v_iconst (v := 0) dX8_descend_103 (by decide) ?_
    refine v_istore (L' := [(5, _), (4, _), (3, _), (2, _), (1, _), (0, _)]) dX8_descend_104 (Nat.le_of_ble_eq_true rfl) rfl ?_
    refine v_iload dX8_descend_106 0 rfl ?_
    refine v_if_ne (tgt := 122) dX8_descend_108 (by decide) (fun c_108 => ?_) (fun c_108 => ?_)
    · exact absurd rfl c_108
    · refine v_iload_n dX8_descend_111 rfl 3 rfl ?_
      refine v_iconst (v := 1) dX8_descend_112 (by decide) ?_
      refine v_iadd dX8_descend_113 ?_
      rw [nI_1]
      refine v_aload_n dX8_descend_114 rfl 5 rfl ?_
      refine v_getf 1 (ci := 6) (C := RX8) (T := TX8) (N := 14) rfl iwX8_descend_X8 (Nat.le_of_ble_eq_true rfl) (by first | decide +kernel | (change Cond.fieldLink RX8 _ _ _ _ ∈ wsX8_descend; decide +kernel)) dX8_descend_115 (by first | with_reducible assumption) rfl ?_
      refine v_alen (t := 3) dX8_descend_118 (fun _ => rfl) (by first | with_reducible assumption) rfl ?_
      refine v_icmp_lt (tgt := 123) dX8_descend_119 (by decide) (fun c_119 => ?_) (fun c_119 => ?_)
      · refine v_iconst (v := 0) dX8_descend_123 (by decide) ?_
        refine v_istore (L' := [(6, _), (5, _), (4, _), (3, _), (2, _), (1, _), (0, _)]) dX8_descend_124 (Nat.le_of_ble_eq_true rfl) rfl ?_
        refine v_sub (L' := [(6, _), (4, _), (3, _), (2, _), (1, _), (0, _)]) [0, 2, 3, 4, 5, 6] rfl ?_
        refine l_plc G Qr h0 z b k nc np pl R hm p3 p4 pa ma sz ly vo ar mp N X q hqa n0 kd hkd l1 l2 x3 x4 x5 x6 hru hN f w (by omega) c hc (S ++ dO np (dQ R hm ly kd l1 l2) c w) (by rw [List.length_append]; rw [dS_s, List.length_append] at hS; omega) IH (fun h1 H1 => hk h1 (by rw [dS_s, ← List.append_assoc]; exact H1)) pl 0 h (by omega) ?_
        exact (by rw [show dP 0 (fun i => if p3 i = c then dS np pl (dQ R hm ly kd l1 l2) p3 p4 (f + 1) (p4 i) (w ++ [i]) else []) = [] from rfl, List.append_nil]; exact H)
      · exact absurd (nI_lt (a := w.length + 1) (b := 16) (by omega) (by decide)) c_119
  · refine v_aload dX8_descend_88 0 rfl ?_
    refine v_getf 1 (ci := 5) (C := RX7) (T := TX7) (N := 8) rfl iwX8_descend_X7 (Nat.le_of_ble_eq_true rfl) (by first | decide +kernel | (change Cond.fieldLink RX8 _ _ _ _ ∈ wsX8_descend; decide +kernel)) dX8_descend_90 (by first | with_reducible assumption) rfl ?_
    refine v_kint (q := ("RuleDeck$Kind", "whole", "Z", [0, 0, 0, 0, 0, 1, 1, 0, 0, 0, 0])) hkd (by decide) (k_who kd hkd) (by first | decide +kernel | (change Cond.fieldLink RX8 _ _ _ _ ∈ wsX8_descend; decide +kernel)) dX8_descend_93 ?_
    refine v_if_ne (tgt := 103) dX8_descend_96 (by decide) (fun c_96 => ?_) (fun c_96 => ?_)
    · refine v_iconst (v := 0) dX8_descend_103 (by decide) ?_
      refine v_istore (L' := [(5, _), (4, _), (3, _), (2, _), (1, _), (0, _)]) dX8_descend_104 (Nat.le_of_ble_eq_true rfl) rfl ?_
      refine v_iload dX8_descend_106 0 rfl ?_
      refine v_if_ne (tgt := 122) dX8_descend_108 (by decide) (fun c_108 => ?_) (fun c_108 => ?_)
      · exact absurd rfl c_108
      · refine v_iload_n dX8_descend_111 rfl 3 rfl ?_
        refine v_iconst (v := 1) dX8_descend_112 (by decide) ?_
        refine v_iadd dX8_descend_113 ?_
        rw [nI_1]
        refine v_aload_n dX8_descend_114 rfl 5 rfl ?_
        refine v_getf 1 (ci := 6) (C := RX8) (T := TX8) (N := 14) rfl iwX8_descend_X8 (Nat.le_of_ble_eq_true rfl) (by first | decide +kernel | (change Cond.fieldLink RX8 _ _ _ _ ∈ wsX8_descend; decide +kernel)) dX8_descend_115 (by first | with_reducible assumption) rfl ?_
        refine v_alen (t := 3) dX8_descend_118 (fun _ => rfl) (by first | with_reducible assumption) rfl ?_
        refine v_icmp_lt (tgt := 123) dX8_descend_119 (by decide) (fun c_119 => ?_) (fun c_119 => ?_)
        · refine v_iconst (v := 0) dX8_descend_123 (by decide) ?_
          refine v_istore (L' := [(6, _), (5, _), (4, _), (3, _), (2, _), (1, _), (0, _)]) dX8_descend_124 (Nat.le_of_ble_eq_true rfl) rfl ?_
          refine v_sub (L' := [(6, _), (4, _), (3, _), (2, _), (1, _), (0, _)]) [0, 2, 3, 4, 5, 6] rfl ?_
          refine l_plc G Qr h0 z b k nc np pl R hm p3 p4 pa ma sz ly vo ar mp N X q hqa n0 kd hkd l1 l2 x3 x4 x5 x6 hru hN f w (by omega) c hc (S ++ dO np (dQ R hm ly kd l1 l2) c w) (by rw [List.length_append]; rw [dS_s, List.length_append] at hS; omega) IH (fun h1 H1 => hk h1 (by rw [dS_s, ← List.append_assoc]; exact H1)) pl 0 h (by omega) ?_
          exact (by rw [show dP 0 (fun i => if p3 i = c then dS np pl (dQ R hm ly kd l1 l2) p3 p4 (f + 1) (p4 i) (w ++ [i]) else []) = [] from rfl, List.append_nil]; exact H)
        · exact absurd (nI_lt (a := w.length + 1) (b := 16) (by omega) (by decide)) c_119
    · exact absurd c_96 (by rw [if_pos (show kd = 5 ∨ kd = 6 from by have c9 : kd < 7 := (by by_cases q9 : kd < 7; exact q9; rw [if_neg q9] at c_85; exact absurd c_85 (by decide)); omega)]; decide)

set_option maxHeartbeats 4000000 in
set_option maxRecDepth 100000 in
theorem c_desc (G : sv_G) (h0 : sv_h) (z b : Nat) (k : Int32) (nc np pl : Nat) (R : Nat → Bool) (hm p3 p4 pa ma sz : Nat → Nat) (ly vo ar : Nat → Int32) (mp : Nat → mvT) (N : Nat → Nat) (X : sx_ G h0 b k nc np pl R hm p3 p4 pa ma sz ly vo ar mp N) (q : Nat) (hqa : q < b + 35 ∨ b + 164 ≤ q) (n0 : Int64) (kd : Nat) (hkd : kd < 11) (l1 l2 x3 x4 x5 x6 : Int32) (hru : h0 q = some (.inr (5, [.long n0, .ref (G.2.2.2.2.1 kd), .int l1, .int l2, .int x3, .int x4, .int x5, .int x6]))) (hN : ∀ r c, r ≤ 16 → c < nc → oc_n np pl R hm p3 p4 r c ≤ N c) (hmany : ¬ (kd < 7 ∧ kd ≠ 5 ∧ kd ≠ 6)) : ∀ (f : Nat) (w : List Nat) (c : Nat) (S : List (List Nat × Nat)) (h : sv_h), w.length + (f + 1) = 16 → c < nc → sc_ G b mp h0 h w S → S.length + (dS np pl (dQ R hm ly kd l1 l2) p3 p4 (f + 1) c w).length ≤ 100 → CT G (mDs f) [.ref (b + 35), .int (nI c), .int (nI w.length), .int (brn w), .ref q] h z (fun v h1 z1 => v = none ∧ z1 = z ∧ sc_ G b mp h0 h1 w (S ++ dS np pl (dQ R hm ly kd l1 l2) p3 p4 (f + 1) c w)) := by
  intro f
  induction f with
  | zero =>
    intro w c S h hw hc H hS
    refine CT.of (by change plainName RX8 = true; decide +kernel) rfl rfl (Nat.le_of_ble_eq_true rfl) ?_
    refine v_iconst (v := 0) dX8_descend_0 (by decide) ?_
    refine v_istore (L' := [(5, _), (0, _), (1, _), (2, _), (3, _), (4, _)]) dX8_descend_1 (Nat.le_of_ble_eq_true rfl) rfl ?_
    refine v_sub (L' := [(5, _), (4, _), (3, _), (2, _), (1, _), (0, _)]) [0, 5, 4, 3, 2, 1] rfl ?_
    refine l_own G _ h0 z b k nc np pl R hm p3 p4 pa ma sz ly vo ar mp N X q hqa n0 kd hkd l1 l2 x3 x4 x5 x6 hru 0 w (by omega) c hc S (by rw [dS_s, List.length_append] at hS; omega) (fun h1 H1 => ?_) np 0 h (by omega) (by rw [show dO 0 (dQ R hm ly kd l1 l2) c w = [] from rfl, List.append_nil]; exact H)
    exact t_76z G _ h0 z b k nc np pl R hm p3 p4 pa ma sz ly vo ar mp N X q hqa n0 kd hkd l1 l2 x3 x4 x5 x6 hru hmany hN w hw c hc S hS h1 H1 (fun h2 H2 => ⟨rfl, rfl, H2⟩)
  | succ f ih =>
    intro w c S h hw hc H hS
    refine CT.of (by change plainName RX8 = true; decide +kernel) rfl rfl (Nat.le_of_ble_eq_true rfl) ?_
    refine v_iconst (v := 0) dX8_descend_0 (by decide) ?_
    refine v_istore (L' := [(5, _), (0, _), (1, _), (2, _), (3, _), (4, _)]) dX8_descend_1 (Nat.le_of_ble_eq_true rfl) rfl ?_
    refine v_sub (L' := [(5, _), (4, _), (3, _), (2, _), (1, _), (0, _)]) [0, 5, 4, 3, 2, 1] rfl ?_
    refine l_own G _ h0 z b k nc np pl R hm p3 p4 pa ma sz ly vo ar mp N X q hqa n0 kd hkd l1 l2 x3 x4 x5 x6 hru (f + 1) w (by omega) c hc S (by rw [dS_s, List.length_append] at hS; omega) (fun h1 H1 => ?_) np 0 h (by omega) (by rw [show dO 0 (dQ R hm ly kd l1 l2) c w = [] from rfl, List.append_nil]; exact H)
    exact t_76s G _ h0 z b k nc np pl R hm p3 p4 pa ma sz ly vo ar mp N X q hqa n0 kd hkd l1 l2 x3 x4 x5 x6 hru hmany hN f w hw c hc S hS ih h1 H1 (fun h2 H2 => ⟨rfl, rfl, H2⟩)

set_option maxHeartbeats 4000000 in
set_option maxRecDepth 100000 in
theorem c_desc1 (G : sv_G) (h0 : sv_h) (z b : Nat) (k : Int32) (nc np pl : Nat) (R : Nat → Bool) (hm p3 p4 pa ma sz : Nat → Nat) (ly vo ar : Nat → Int32) (mp : Nat → mvT) (N : Nat → Nat) (X : sx_ G h0 b k nc np pl R hm p3 p4 pa ma sz ly vo ar mp N) (q : Nat) (hqa : q < b + 35 ∨ b + 164 ≤ q) (n0 : Int64) (kd : Nat) (hkd : kd < 11) (l1 l2 x3 x4 x5 x6 : Int32) (hru : h0 q = some (.inr (5, [.long n0, .ref (G.2.2.2.2.1 kd), .int l1, .int l2, .int x3, .int x4, .int x5, .int x6]))) (hone : kd < 7 ∧ kd ≠ 5 ∧ kd ≠ 6) (f : Nat) (w : List Nat) (hw : w.length < 16) (c : Nat) (hc : c < nc) (S : List (List Nat × Nat)) (h : sv_h) (H : sc_ G b mp h0 h w S) (hS : S.length + (dO np (dQ R hm ly kd l1 l2) c w).length ≤ 100) : CT G (mDs f) [.ref (b + 35), .int (nI c), .int (nI w.length), .int (brn w), .ref q] h z (fun v h1 z1 => v = none ∧ z1 = z ∧ sc_ G b mp h0 h1 w (S ++ dO np (dQ R hm ly kd l1 l2) c w)) := by
    refine CT.of (by change plainName RX8 = true; decide +kernel) rfl rfl (Nat.le_of_ble_eq_true rfl) ?_
    refine v_iconst (v := 0) dX8_descend_0 (by decide) ?_
    refine v_istore (L' := [(5, _), (0, _), (1, _), (2, _), (3, _), (4, _)]) dX8_descend_1 (Nat.le_of_ble_eq_true rfl) rfl ?_
    refine v_sub (L' := [(5, _), (4, _), (3, _), (2, _), (1, _), (0, _)]) [0, 5, 4, 3, 2, 1] rfl ?_
    refine l_own G _ h0 z b k nc np pl R hm p3 p4 pa ma sz ly vo ar mp N X q hqa n0 kd hkd l1 l2 x3 x4 x5 x6 hru f w hw c hc S hS (fun h1 H1 => ?_) np 0 h (by omega) (by rw [show dO 0 (dQ R hm ly kd l1 l2) c w = [] from rfl, List.append_nil]; exact H)
    exact t_76o G _ h0 z b k nc np pl R hm p3 p4 pa ma sz ly vo ar mp N X q hqa n0 kd hkd l1 l2 x3 x4 x5 x6 hru hone f w hw c hc _ h1 H1 (fun h2 H2 => ⟨rfl, rfl, H2⟩)

