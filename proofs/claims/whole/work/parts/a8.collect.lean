set_option maxHeartbeats 4000000 in
set_option maxRecDepth 100000 in
theorem l_coL (G : sv_G) (Qr : Option Value → sv_h → Nat → Prop) (hki : sv_ki G) (h0 : sv_h) (z b : Nat) (k : Int32) (nc np pl : Nat) (R : Nat → Bool) (hm p3 p4 pa ma sz : Nat → Nat) (ly vo ar : Nat → Int32) (mp : Nat → mvT) (N : Nat → Nat) (Z9 : sx_ G h0 b k nc np pl R hm p3 p4 pa ma sz ly vo ar mp N) (X Y : Nat → Nat → Int) (fc : Nat → Nat → Nat) (oc : Nat → Nat → Option Nat) (PX : px_ G h0 np R pa sz X Y fc oc) (q : Nat) (hqa : q < b + 35 ∨ b + 164 ≤ q) (n0 : Int64) (kd : Nat) (hkd : kd < 11) (l1 l2 x3 x4 x5 x6 : Int32) (hru : h0 q = some (.inr (5, [.long n0, .ref (G.2.2.2.2.1 kd), .int l1, .int l2, .int x3, .int x4, .int x5, .int x6]))) (t : Nat) (hqq : q < b + 32 ∨ (b + 180 ≤ q ∧ q < b + 204)) (hta : b + 204 ≤ t ∧ t + 4 ≤ b + 220) (hchk : h0 (b + 32) = some (.inr (0, [.ref (b + 1), .ref (b + 35), .ref (b + 33), .ref (b + 34), .ref q, .ref t]))) (hC : coB np R sz X Y) (hM : ∀ i, i < pl → mvB mp i) (har : ∀ p, p < np → R p = true → bd (ar p).toInt) (hN : ∀ r c, r ≤ 16 → c < nc → oc_n np pl R hm p3 p4 r c ≤ N c) (cl : Nat) (hcl : cl < nc) (g : Nat → Bool) (hg : ∀ d, d < 16 → (g d = true ↔ gr_R pl p3 p4 cl d)) (h100 : ∀ d, d < nc → gr_R pl p3 p4 cl d → oc_n np pl R hm p3 p4 16 d ≤ 100) (hkd5 : kd ≠ 5 ∧ kd ≠ 6) (x : Int32) (hx : ∀ d, d < 16 → (bt x d ↔ gr_R pl p3 p4 cl d)) (hk : ∀ (h3 : sv_h) (hm3 : Int32), tE G h3 t hm3 (jAll kd l1 l2 x3 x4 x5 x6 np pl R hm p3 p4 ly vo ar mp sz X Y fc oc g nc) → sn_ G b h3 → (∀ a, ¬ (b + 35 ≤ a ∧ a < b + 164) → ¬ (t ≤ a ∧ a < t + 4) → h3 a = h0 a) → Qr (some (.int (if ((jAll kd l1 l2 x3 x4 x5 x6 np pl R hm p3 p4 ly vo ar mp sz X Y fc oc g nc)).length ≤ 1500 then 1 else 0))) h3 z) : ∀ (e i : Nat) (h : sv_h) (hmx : Int32), i + e = nc → (∀ a, ¬ (b + 35 ≤ a ∧ a < b + 164) → ¬ (t ≤ a ∧ a < t + 4) → h a = h0 a) → sn_ G b h → tE G h t hmx (jAll kd l1 l2 x3 x4 x5 x6 np pl R hm p3 p4 ly vo ar mp sz X Y fc oc g i) → V G mX1_collect (sv_MQ G mX1_collect Qr) 65 [(5, .int (nI i)), (4, .int x), (3, .ref t), (2, .int (nI cl)), (1, .ref q), (0, .ref (b + 32))] [] h z 0 0 := by
  intro e
  induction e with
  | zero =>
    intro i h hmx hie fr NNh H
    obtain ⟨y1, _, _, _, _, ⟨f6, y6, y6a⟩, y8, _, yA, _⟩ := id Z9
    have w1 := (fr (b + 1) (by omega) (by omega)).trans y1
    have w6 : ab_I G h (b + 6) 16 f6 := (fr (b + 6) (by omega) (by omega)).trans y6
    have wG := (fr (b + 32) (by omega) (by omega)).trans hchk
    obtain ⟨x9, us9, sz9, ov9, ht9, ho9⟩ := H.ov
    have e9 : i = nc := by omega
    subst e9
    have hk9 := hk h hmx H NNh fr
    refine v_iload dX1_collect_65 0 rfl ?_
    refine v_aload_n dX1_collect_67 rfl 5 rfl ?_
    refine v_getf 0 (ci := 0) (C := RX1) (T := TX1) (N := 6) rfl iwX1_collect_X1 (Nat.le_of_ble_eq_true rfl) (by decide +kernel) dX1_collect_68 (by first | with_reducible assumption) rfl ?_
    refine v_getf 1 (ci := 1) (C := RX3) (T := TX3) (N := 10) rfl iwX1_collect_X3 (Nat.le_of_ble_eq_true rfl) (by decide +kernel) dX1_collect_71 (by first | with_reducible assumption) rfl ?_
    refine v_icmp_ge (tgt := 113) dX1_collect_74 (by decide) (fun c_74 => ?_) (fun c_74 => ?_)
    · refine v_aload_n dX1_collect_113 rfl 5 rfl ?_
      refine v_getf 5 (ci := 0) (C := RX1) (T := TX1) (N := 6) rfl iwX1_collect_X1 (Nat.le_of_ble_eq_true rfl) (by decide +kernel) dX1_collect_114 (by first | with_reducible assumption) rfl ?_
      refine v_getf 5 (ci := 8) (C := RX10) (T := TX10) (N := 7) rfl iwX1_collect_X10 (Nat.le_of_ble_eq_true rfl) (by decide +kernel) dX1_collect_117 (by first | with_reducible assumption) rfl ?_
      refine v_if_ne (tgt := 127) dX1_collect_120 (by decide) (fun c_120 => ?_) (fun c_120 => ?_)
      · refine v_iconst (v := 0) dX1_collect_127 (by decide) ?_
        exact v_iret rfl dX1_collect_128 (Nat.le_of_ble_eq_true rfl) (Nat.le_of_ble_eq_true rfl) rfl (by
                  first
                    | (have c9 : ov9 = 0 := c_120
                       rcases ho9 with ⟨_, e9⟩ | ⟨e8, _⟩
                       · rw [if_pos e9] at hk9
                         exact hk9
                       · exact absurd (e8.symm.trans c9) (by decide))
                    | (have c9 : ¬ ov9 = 0 := c_120
                       rcases ho9 with ⟨e8, _⟩ | ⟨_, e9, _⟩
                       · exact absurd e8 c9
                       · rw [if_neg (by omega)] at hk9
                         exact hk9))
      · refine v_iconst (v := 1) dX1_collect_123 (by decide) ?_
        refine v_goto (tgt := 128) dX1_collect_124 (by decide) ?_
        exact v_iret rfl dX1_collect_128 (Nat.le_of_ble_eq_true rfl) (Nat.le_of_ble_eq_true rfl) rfl (by
                  first
                    | (have c9 : ov9 = 0 := c_120
                       rcases ho9 with ⟨_, e9⟩ | ⟨e8, _⟩
                       · rw [if_pos e9] at hk9
                         exact hk9
                       · exact absurd (e8.symm.trans c9) (by decide))
                    | (have c9 : ¬ ov9 = 0 := c_120
                       rcases ho9 with ⟨e8, _⟩ | ⟨_, e9, _⟩
                       · exact absurd e8 c9
                       · rw [if_neg (by omega)] at hk9
                         exact hk9))
    · exact absurd (nI_le (Nat.le_refl i) (by omega)) c_74
  | succ e ih =>
    intro i h hmx hie fr NNh H
    obtain ⟨y1, _, _, _, _, ⟨f6, y6, y6a⟩, y8, _, yA, _⟩ := id Z9
    have w1 := (fr (b + 1) (by omega) (by omega)).trans y1
    have w6 : ab_I G h (b + 6) 16 f6 := (fr (b + 6) (by omega) (by omega)).trans y6
    have wG := (fr (b + 32) (by omega) (by omega)).trans hchk
    obtain ⟨x9, us9, sz9, ov9, ht9, ho9⟩ := H.ov
    have hi : i < nc := by omega
    have Z1 := Z9.kept (h1 := h) (fun a p => fr a (by omega) (by omega))
    have P1 := PX.kept (b := b) (h1 := h) (fun p hp => (y8 p hp).2.2.1) (fun a p => fr a (by omega) (by omega))
    refine v_iload dX1_collect_65 0 rfl ?_
    refine v_aload_n dX1_collect_67 rfl 5 rfl ?_
    refine v_getf 0 (ci := 0) (C := RX1) (T := TX1) (N := 6) rfl iwX1_collect_X1 (Nat.le_of_ble_eq_true rfl) (by decide +kernel) dX1_collect_68 (by first | with_reducible assumption) rfl ?_
    refine v_getf 1 (ci := 1) (C := RX3) (T := TX3) (N := 10) rfl iwX1_collect_X3 (Nat.le_of_ble_eq_true rfl) (by decide +kernel) dX1_collect_71 (by first | with_reducible assumption) rfl ?_
    refine v_icmp_ge (tgt := 113) dX1_collect_74 (by decide) (fun c_74 => ?_) (fun c_74 => ?_)
    · exact absurd c_74 (nI_ge hi (by omega))
    · refine v_iload dX1_collect_77 1 rfl ?_
      refine v_iload dX1_collect_79 0 rfl ?_
      refine v_ishr dX1_collect_81 ?_
      refine v_iconst (v := 1) dX1_collect_82 (by decide) ?_
      refine v_iand dX1_collect_83 ?_
      refine v_iconst (v := 1) dX1_collect_84 (by decide) ?_
      refine v_icmp_ne (tgt := 107) dX1_collect_85 (by decide) (fun c_85 => ?_) (fun c_85 => ?_)
      · refine v_iinc (j := 0) (L' := [(5, _), (4, _), (3, _), (2, _), (1, _), (0, _)]) (v := nI (i + 1)) dX1_collect_107 rfl (nI_1 _) (Nat.le_of_ble_eq_true rfl) rfl ?_
        refine v_goto (tgt := 65) dX1_collect_110 (by decide) ?_
        refine v_sub (L' := [(5, _), (4, _), (3, _), (2, _), (1, _), (0, _)]) [0, 1, 2, 3, 4, 5] rfl ?_
        first
          | (have c9 := H1
             refine ih (i + 1) h1 (iN (i : Int)) (by omega) (fun a p1 p2 => (fr1 a p1 p2).trans (fr a p1 p2)) NN1 ?_
             rw [jAll_s, if_pos ((hg i (by omega)).mpr ((hx i (by omega)).mp c_85))]
             exact c9)
          | (have c9 := c_98
             have n0 : N i = 0 := (by
               have q9 : (nI (min 101 (N i))).toInt ≤ 0 := Int32.le_iff_toInt_le.mp c9
               rw [show (nI (min 101 (N i))).toInt = ((min 101 (N i) : Nat) : Int) from nI_toI (by omega)] at q9
               omega)
             refine ih (i + 1) h hmx (by omega) fr NNh ?_
             rw [jAll_s, jCl_nil kd l1 l2 x3 x4 x5 x6 np pl R hm p3 p4 ly vo ar mp sz X Y fc oc (by have := hN 16 i (by omega) hi; omega), if_pos ((hg i (by omega)).mpr ((hx i (by omega)).mp c_85)), List.append_nil]
             exact H)
          | (refine ih (i + 1) h hmx (by omega) fr NNh ?_
             rw [jAll_s, if_neg (fun q9 => c_85 ((hx i (by omega)).mpr ((hg i (by omega)).mp q9))), List.append_nil]
             exact H)
      · refine v_aload_n dX1_collect_88 rfl 5 rfl ?_
        refine v_getf 0 (ci := 0) (C := RX1) (T := TX1) (N := 6) rfl iwX1_collect_X1 (Nat.le_of_ble_eq_true rfl) (by decide +kernel) dX1_collect_89 (by first | with_reducible assumption) rfl ?_
        refine v_getf 8 (ci := 1) (C := RX3) (T := TX3) (N := 10) rfl iwX1_collect_X3 (Nat.le_of_ble_eq_true rfl) (by decide +kernel) dX1_collect_92 (by first | with_reducible assumption) rfl ?_
        refine v_iload dX1_collect_95 0 rfl ?_
        refine v_ialdS (v := nI (min 101 (N i))) dX1_collect_97 (by first | with_reducible assumption) (vp_in_nI (by omega) (by omega)) (by rw [nI_clamp (by omega)]; exact y6a i hi) ?_
        refine v_if_le (tgt := 107) dX1_collect_98 (by decide) (fun c_98 => ?_) (fun c_98 => ?_)
        · refine v_iinc (j := 0) (L' := [(5, _), (4, _), (3, _), (2, _), (1, _), (0, _)]) (v := nI (i + 1)) dX1_collect_107 rfl (nI_1 _) (Nat.le_of_ble_eq_true rfl) rfl ?_
          refine v_goto (tgt := 65) dX1_collect_110 (by decide) ?_
          refine v_sub (L' := [(5, _), (4, _), (3, _), (2, _), (1, _), (0, _)]) [0, 1, 2, 3, 4, 5] rfl ?_
          first
            | (have c9 := H1
               refine ih (i + 1) h1 (iN (i : Int)) (by omega) (fun a p1 p2 => (fr1 a p1 p2).trans (fr a p1 p2)) NN1 ?_
               rw [jAll_s, if_pos ((hg i (by omega)).mpr ((hx i (by omega)).mp c_85))]
               exact c9)
            | (have c9 := c_98
               have n0 : N i = 0 := (by
                 have q9 : (nI (min 101 (N i))).toInt ≤ 0 := Int32.le_iff_toInt_le.mp c9
                 rw [show (nI (min 101 (N i))).toInt = ((min 101 (N i) : Nat) : Int) from nI_toI (by omega)] at q9
                 omega)
               refine ih (i + 1) h hmx (by omega) fr NNh ?_
               rw [jAll_s, jCl_nil kd l1 l2 x3 x4 x5 x6 np pl R hm p3 p4 ly vo ar mp sz X Y fc oc (by have := hN 16 i (by omega) hi; omega), if_pos ((hg i (by omega)).mpr ((hx i (by omega)).mp c_85)), List.append_nil]
               exact H)
            | (refine ih (i + 1) h hmx (by omega) fr NNh ?_
               rw [jAll_s, if_neg (fun q9 => c_85 ((hx i (by omega)).mpr ((hg i (by omega)).mp q9))), List.append_nil]
               exact H)
        · refine v_aload_n dX1_collect_101 rfl 5 rfl ?_
          refine v_iload dX1_collect_102 0 rfl ?_
          refine v_callVq (M' := mX1_judgeCell) (n := 1) (As := [_]) (ci := 0) (r := (RX1, TX1, 6)) gX1_collect_X1_judgeCell rfl (by decide +kernel) ⟨(Nat.le_of_ble_eq_true rfl), (Nat.le_of_ble_eq_true rfl)⟩ rfl rfl dX1_collect_104 rfl ⟨(Nat.le_of_ble_eq_true rfl), (Nat.le_of_ble_eq_true rfl)⟩ (Nat.le_of_ble_eq_true rfl) (by first | with_reducible assumption) rfl (c_jCell G hki h _ b k nc np pl R hm p3 p4 pa ma sz ly vo ar mp N Z1 X Y fc oc P1 NNh q hqa n0 kd hkd l1 l2 x3 x4 x5 x6 ((fr q (by omega) (by omega)).trans hru) t hqq hta wG hmx _ H hC hM har hN hkd5 i hi (h100 i hi ((hx i (by omega)).mp c_85))) (fun v h1 y1 hq9 => ?_)
          obtain ⟨rfl, rfl, H1, NN1, fr1⟩ := hq9
          refine v_iinc (j := 0) (L' := [(5, _), (4, _), (3, _), (2, _), (1, _), (0, _)]) (v := nI (i + 1)) dX1_collect_107 rfl (nI_1 _) (Nat.le_of_ble_eq_true rfl) rfl ?_
          refine v_goto (tgt := 65) dX1_collect_110 (by decide) ?_
          refine v_sub (L' := [(5, _), (4, _), (3, _), (2, _), (1, _), (0, _)]) [0, 1, 2, 3, 4, 5] rfl ?_
          first
            | (have c9 := H1
               refine ih (i + 1) h1 (iN (i : Int)) (by omega) (fun a p1 p2 => (fr1 a p1 p2).trans (fr a p1 p2)) NN1 ?_
               rw [jAll_s, if_pos ((hg i (by omega)).mpr ((hx i (by omega)).mp c_85))]
               exact c9)
            | (have c9 := c_98
               have n0 : N i = 0 := (by
                 have q9 : (nI (min 101 (N i))).toInt ≤ 0 := Int32.le_iff_toInt_le.mp c9
                 rw [show (nI (min 101 (N i))).toInt = ((min 101 (N i) : Nat) : Int) from nI_toI (by omega)] at q9
                 omega)
               refine ih (i + 1) h hmx (by omega) fr NNh ?_
               rw [jAll_s, jCl_nil kd l1 l2 x3 x4 x5 x6 np pl R hm p3 p4 ly vo ar mp sz X Y fc oc (by have := hN 16 i (by omega) hi; omega), if_pos ((hg i (by omega)).mpr ((hx i (by omega)).mp c_85)), List.append_nil]
               exact H)
            | (refine ih (i + 1) h hmx (by omega) fr NNh ?_
               rw [jAll_s, if_neg (fun q9 => c_85 ((hx i (by omega)).mpr ((hg i (by omega)).mp q9))), List.append_nil]
               exact H)

set_option maxHeartbeats 4000000 in
set_option maxRecDepth 100000 in
theorem t_co32 (G : sv_G) (Qr : Option Value → sv_h → Nat → Prop) (hki : sv_ki G) (h0 : sv_h) (z b : Nat) (k : Int32) (nc np pl : Nat) (R : Nat → Bool) (hm p3 p4 pa ma sz : Nat → Nat) (ly vo ar : Nat → Int32) (mp : Nat → mvT) (N : Nat → Nat) (Z9 : sx_ G h0 b k nc np pl R hm p3 p4 pa ma sz ly vo ar mp N) (X Y : Nat → Nat → Int) (fc : Nat → Nat → Nat) (oc : Nat → Nat → Option Nat) (PX : px_ G h0 np R pa sz X Y fc oc) (q : Nat) (hqa : q < b + 35 ∨ b + 164 ≤ q) (n0 : Int64) (kd : Nat) (hkd : kd < 11) (l1 l2 x3 x4 x5 x6 : Int32) (hru : h0 q = some (.inr (5, [.long n0, .ref (G.2.2.2.2.1 kd), .int l1, .int l2, .int x3, .int x4, .int x5, .int x6]))) (t : Nat) (hqq : q < b + 32 ∨ (b + 180 ≤ q ∧ q < b + 204)) (hta : b + 204 ≤ t ∧ t + 4 ≤ b + 220) (hchk : h0 (b + 32) = some (.inr (0, [.ref (b + 1), .ref (b + 35), .ref (b + 33), .ref (b + 34), .ref q, .ref t]))) (hC : coB np R sz X Y) (hM : ∀ i, i < pl → mvB mp i) (har : ∀ p, p < np → R p = true → bd (ar p).toInt) (hN : ∀ r c, r ≤ 16 → c < nc → oc_n np pl R hm p3 p4 r c ≤ N c) (cl : Nat) (hcl : cl < nc) (g : Nat → Bool) (hg : ∀ d, d < 16 → (g d = true ↔ gr_R pl p3 p4 cl d)) (h100 : ∀ d, d < nc → gr_R pl p3 p4 cl d → oc_n np pl R hm p3 p4 16 d ≤ 100) (hkd5 : kd ≠ 5 ∧ kd ≠ 6) (NN9 : sn_ G b h0) (hm0 : Int32) (H : tE G h0 t hm0 []) (hk : ∀ (h3 : sv_h) (hm3 : Int32), tE G h3 t hm3 (jAll kd l1 l2 x3 x4 x5 x6 np pl R hm p3 p4 ly vo ar mp sz X Y fc oc g nc) → sn_ G b h3 → (∀ a, ¬ (b + 35 ≤ a ∧ a < b + 164) → ¬ (t ≤ a ∧ a < t + 4) → h3 a = h0 a) → Qr (some (.int (if ((jAll kd l1 l2 x3 x4 x5 x6 np pl R hm p3 p4 ly vo ar mp sz X Y fc oc g nc)).length ≤ 1500 then 1 else 0))) h3 z) : V G mX1_collect (sv_MQ G mX1_collect Qr) 32 [(0, .ref (b + 32)), (1, .ref q), (2, .int (nI cl)), (3, .ref t)] [] h0 z 0 0 := by
  obtain ⟨y1, _, ⟨f3, y3, y3a⟩, ⟨f4, y4, y4a⟩, _, ⟨f6, y6, y6a⟩, y8, y9, yA, yB, yC⟩ := id Z9
  obtain ⟨x9, us9, sz9, ov9, ht9, ho9⟩ := H.ov
  refine v_aload_n dX1_collect_32 rfl 0 rfl ?_
  refine v_getf 4 (ci := 0) (C := RX1) (T := TX1) (N := 6) rfl iwX1_collect_X1 (Nat.le_of_ble_eq_true rfl) (by decide +kernel) dX1_collect_33 (by first | with_reducible assumption) rfl ?_
  refine v_getf 1 (ci := 5) (C := RX7) (T := TX7) (N := 8) rfl iwX1_collect_X7 (Nat.le_of_ble_eq_true rfl) (by decide +kernel) dX1_collect_36 (by first | with_reducible assumption) rfl ?_
  refine v_kint (q := ("RuleDeck$Kind", "whole", "Z", [0, 0, 0, 0, 0, 1, 1, 0, 0, 0, 0])) hkd (by decide) (k_who kd hkd) (by decide +kernel) dX1_collect_39 ?_
  rw [if_neg (show ¬ (kd = 5 ∨ kd = 6) by omega)]
  refine v_if_eq (tgt := 52) dX1_collect_42 (by decide) (fun c_42 => ?_) (fun c_42 => ?_)
  · refine v_aload_n dX1_collect_52 rfl 0 rfl ?_
    refine v_getf 0 (ci := 0) (C := RX1) (T := TX1) (N := 6) rfl iwX1_collect_X1 (Nat.le_of_ble_eq_true rfl) (by decide +kernel) dX1_collect_53 (by first | with_reducible assumption) rfl ?_
    refine v_iload_n dX1_collect_56 rfl 2 rfl ?_
    refine v_callVq (M' := mX3_cellsIn) (n := 1) (As := [_]) (ci := 1) (r := (RX3, TX3, 10)) gX1_collect_X3_cellsIn rfl (by decide +kernel) ⟨(Nat.le_of_ble_eq_true rfl), (Nat.le_of_ble_eq_true rfl)⟩ rfl rfl dX1_collect_57 rfl ⟨(Nat.le_of_ble_eq_true rfl), (Nat.le_of_ble_eq_true rfl)⟩ (Nat.le_of_ble_eq_true rfl) (by first | with_reducible assumption) rfl (c_cellsIn G h0 _ (b + 1) nc pl p3 p4 f3 f4 (b + 2) (b + 3) (b + 4) (b + 5) (b + 6) (b + 7) k (nI np) y1 y3 y4 yC yA (fun i hi => ⟨y3a i hi, y4a i hi, (y9 i hi).2.2.1, (y9 i hi).2.2.2.1⟩) cl hcl) (fun v h9 y9_ hq9 => ?_)
    obtain ⟨⟨x, rfl, hx⟩, rfl, rfl⟩ := hq9
    refine v_istore (L' := [(4, _), (0, _), (1, _), (2, _), (3, _)]) dX1_collect_60 (Nat.le_of_ble_eq_true rfl) rfl ?_
    refine v_iconst (v := 0) dX1_collect_62 (by decide) ?_
    refine v_istore (L' := [(5, _), (4, _), (0, _), (1, _), (2, _), (3, _)]) dX1_collect_63 (Nat.le_of_ble_eq_true rfl) rfl ?_
    refine v_sub (L' := [(5, _), (4, _), (3, _), (2, _), (1, _), (0, _)]) [0, 1, 5, 4, 3, 2] rfl ?_
    exact l_coL G Qr  hki _ _ b k nc np pl R hm p3 p4 pa ma sz ly vo ar mp N Z9 X Y fc oc PX q hqa n0 kd hkd l1 l2 x3 x4 x5 x6 hru t hqq hta hchk hC hM har hN cl hcl g hg h100 hkd5 x hx hk nc 0 _ hm0 (Nat.zero_add _) (fun _ _ _ => rfl) NN9 H
  · exact absurd rfl c_42

theorem jWh_len (kd : Nat) (x3 : Int32) (c A : Int) (n : Nat) (s : Nat → Int) : (jWh kd x3 c A n s).length ≤ 1 := by
  unfold jWh
  split
  · exact Nat.le_refl 1
  · exact Nat.zero_le 1
set_option maxHeartbeats 4000000 in
set_option maxRecDepth 100000 in
theorem t_co32w (G : sv_G) (Qr : Option Value → sv_h → Nat → Prop) (hki : sv_ki G) (h0 : sv_h) (z b : Nat) (k : Int32) (nc np pl : Nat) (R : Nat → Bool) (hm p3 p4 pa ma sz : Nat → Nat) (ly vo ar : Nat → Int32) (mp : Nat → mvT) (N : Nat → Nat) (Z9 : sx_ G h0 b k nc np pl R hm p3 p4 pa ma sz ly vo ar mp N) (X Y : Nat → Nat → Int) (fc : Nat → Nat → Nat) (oc : Nat → Nat → Option Nat) (PX : px_ G h0 np R pa sz X Y fc oc) (q : Nat) (hqa : q < b + 35 ∨ b + 164 ≤ q) (n0 : Int64) (kd : Nat) (hkd : kd < 11) (l1 l2 x3 x4 x5 x6 : Int32) (hru : h0 q = some (.inr (5, [.long n0, .ref (G.2.2.2.2.1 kd), .int l1, .int l2, .int x3, .int x4, .int x5, .int x6]))) (t : Nat) (hqq : q < b + 32 ∨ (b + 180 ≤ q ∧ q < b + 204)) (hta : b + 204 ≤ t ∧ t + 4 ≤ b + 220) (hchk : h0 (b + 32) = some (.inr (0, [.ref (b + 1), .ref (b + 35), .ref (b + 33), .ref (b + 34), .ref q, .ref t]))) (hC : coB np R sz X Y) (hM : ∀ i, i < pl → mvB mp i) (har : ∀ p, p < np → R p = true → bd (ar p).toInt) (hN : ∀ r c, r ≤ 16 → c < nc → oc_n np pl R hm p3 p4 r c ≤ N c) (cl : Nat) (hcl : cl < nc) (g : Nat → Bool) (hg : ∀ d, d < 16 → (g d = true ↔ gr_R pl p3 p4 cl d)) (h100 : ∀ d, d < nc → gr_R pl p3 p4 cl d → oc_n np pl R hm p3 p4 16 d ≤ 100) (hk56 : kd = 5 ∨ kd = 6) (NN9 : sn_ G b h0) (hm0 : Int32) (H : tE G h0 t hm0 []) (hk : ∀ (h3 : sv_h) (hm3 : Int32), tE G h3 t hm3 (jWc kd l1 l2 x3 x4 x5 x6 np pl R hm p3 p4 ly vo ar mp sz X Y fc oc cl) → sn_ G b h3 → (∀ a, ¬ (b + 35 ≤ a ∧ a < b + 164) → ¬ (t ≤ a ∧ a < t + 4) → h3 a = h0 a) → Qr (some (.int (if ((jWc kd l1 l2 x3 x4 x5 x6 np pl R hm p3 p4 ly vo ar mp sz X Y fc oc cl)).length ≤ 1500 then 1 else 0))) h3 z) : V G mX1_collect (sv_MQ G mX1_collect Qr) 32 [(0, .ref (b + 32)), (1, .ref q), (2, .int (nI cl)), (3, .ref t)] [] h0 z 0 0 := by
  obtain ⟨y1, _, ⟨f3, y3, y3a⟩, ⟨f4, y4, y4a⟩, _, ⟨f6, y6, y6a⟩, y8, y9, yA, yB, yC⟩ := id Z9
  obtain ⟨x9, us9, sz9, ov9, ht9, ho9⟩ := H.ov
  have l1' := dS_len (np := np) (pl := pl) (Q := dQ R hm ly kd l1 l2) (R := R) (hm := hm) (p3 := p3) (p4 := p4) (fun c p q => ⟨(dQ_iff.mp q).1, (dQ_iff.mp q).2.1⟩) 16 cl []
  refine v_aload_n dX1_collect_32 rfl 0 rfl ?_
  refine v_getf 4 (ci := 0) (C := RX1) (T := TX1) (N := 6) rfl iwX1_collect_X1 (Nat.le_of_ble_eq_true rfl) (by decide +kernel) dX1_collect_33 (by first | with_reducible assumption) rfl ?_
  refine v_getf 1 (ci := 5) (C := RX7) (T := TX7) (N := 8) rfl iwX1_collect_X7 (Nat.le_of_ble_eq_true rfl) (by decide +kernel) dX1_collect_36 (by first | with_reducible assumption) rfl ?_
  refine v_kint (q := ("RuleDeck$Kind", "whole", "Z", [0, 0, 0, 0, 0, 1, 1, 0, 0, 0, 0])) hkd (by decide) (k_who kd hkd) (by decide +kernel) dX1_collect_39 ?_
  rw [if_pos hk56]
  refine v_if_eq (tgt := 52) dX1_collect_42 (by decide) (fun c_42 => ?_) (fun c_42 => ?_)
  · exact absurd c_42 (by decide)
  · refine v_aload_n dX1_collect_45 rfl 0 rfl ?_
    refine v_iload_n dX1_collect_46 rfl 2 rfl ?_
    refine v_callVq (M' := mX1_judgeWhole) (n := 1) (As := [_]) (ci := 0) (r := (RX1, TX1, 6)) gX1_collect_X1_judgeWhole rfl (by decide +kernel) ⟨(Nat.le_of_ble_eq_true rfl), (Nat.le_of_ble_eq_true rfl)⟩ rfl rfl dX1_collect_47 rfl ⟨(Nat.le_of_ble_eq_true rfl), (Nat.le_of_ble_eq_true rfl)⟩ (Nat.le_of_ble_eq_true rfl) (by first | with_reducible assumption) rfl (c_jWhole G hki h0 _ b k nc np pl R hm p3 p4 pa ma sz ly vo ar mp N Z9 X Y fc oc PX NN9 q hqa n0 kd hkd l1 l2 x3 x4 x5 x6 hru t hqq hta hchk hm0 [] H hN hk56 cl hcl (by have := h100 cl hcl gr_R.rf; omega) (dS_hS hC hM cl)) (fun v h1 y1 hq9 => ?_)
    obtain ⟨rfl, rfl, H1, NN1, fr1⟩ := hq9
    refine v_iconst (v := 1) dX1_collect_50 (by decide) ?_
    exact v_iret rfl dX1_collect_51 (Nat.le_of_ble_eq_true rfl) (Nat.le_of_ble_eq_true rfl) rfl (by
          rw [List.nil_append] at H1
          have hk9 := hk h1 _ H1 NN1 fr1
          rw [if_pos (show (jWc kd l1 l2 x3 x4 x5 x6 np pl R hm p3 p4 ly vo ar mp sz X Y fc oc cl).length ≤ 1500 from Nat.le_trans (jWh_len _ _ _ _ _ _) (by decide))] at hk9
          exact hk9)

