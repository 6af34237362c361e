set_option maxHeartbeats 4000000 in
set_option maxRecDepth 100000 in
theorem t_lbz (G : sv_G) (Qr : Option Value → sv_h → Nat → Prop) (h0 : sv_h) (z b : Nat) (k : Int32) (nc np pl : Nat) (R : Nat → Bool) (hm p3 p4 pa ma sz : Nat → Nat) (ly vo ar : Nat → Int32) (mp : Nat → mvT) (N : Nat → Nat) (Z9 : sx_ G h0 b k nc np pl R hm p3 p4 pa ma sz ly vo ar mp N) (c4 c5 : Value) (hchk : h0 (b + 32) = some (.inr (0, [.ref (b + 1), .ref (b + 35), .ref (b + 33), .ref (b + 34), c4, c5]))) (fp : Nat → Option Nat) (h33 : ab_Q G h0 (b + 33) 3 16 fp) (hfp : ∀ i, i < 16 → fp i = some (b + 164 + i)) (Lc : Nat → List (List Int64)) (fb : Nat → Int32) (h34 : ab_I G h0 (b + 34) 17 fb) (hfb : ∀ c, c ≤ 16 → fb c = nI (bgL Lc c)) (t1 t2 : Nat) (hd : t1 + 4 ≤ t2 ∨ t2 + 4 ≤ t1) (hta : b + 204 ≤ t1 ∧ t1 + 4 ≤ b + 220) (htb : b + 204 ≤ t2 ∧ t2 + 4 ≤ b + 220) (H1 : tO G h0 t1 ((List.range 16).flatMap Lc)) (hok : ∀ c, c < 16 → ∀ x, x < (Lc c).length → rok ((Lc c).getD x [])) (hMB : ∀ i, i < pl → mvB mp i) (top9 : Nat) (hL0 : ∀ i, i < pl → gr_R pl p3 p4 top9 (p3 i) → N (p4 i) = 0 → ∀ f w, lS pl p3 p4 mp Lc f (p4 i) w = [])  (w : List Nat) (hw : w.length + (0 + 1) = 16) (hwp : ∀ i, i ∈ w → i < pl) (c : Nat) (hc : c < nc) (hcW : gr_R pl p3 p4 top9 c) (E : List (List Int64))  (h : sv_h) (hm9 : Int32) (P : lp_ b mp h0 h t2 w) (H : tE G h t2 hm9 (E ++ (Lc c).map (mvR (mvW mp w)))) (hk : ∀ (h : sv_h) (hm9 : Int32), lp_ b mp h0 h t2 w → tE G h t2 hm9 (E ++ lS pl p3 p4 mp Lc (0 + 1) c w) → Qr none h z) : V G (mLb 0) (sv_MQ G (mLb 0) Qr) 49 [(4, .ref t2), (3, .int (nI w.length)), (2, .int (nI c)), (1, .ref t1), (0, .ref (b + 32))] [] h z 0 0 := by
  obtain ⟨g1, _, ⟨f3, g3, g3a⟩, ⟨f4, g4, g4a⟩, ⟨f5, g5, g5a⟩, ⟨f6, g6, g6a⟩, gp, gm, gn, gnp, gpl⟩ := id Z9
  obtain ⟨pA, pB, pF⟩ := id P
  have r1 := (pF (b + 1) (by omega) (by omega)).trans g1
  have r3 : ab_I G h (b + 3) 32 f3 := (pF (b + 3) (by omega) (by omega)).trans g3
  have r4 : ab_I G h (b + 4) 32 f4 := (pF (b + 4) (by omega) (by omega)).trans g4
  have r5 : ab_Q G h (b + 5) 3 32 f5 := (pF (b + 5) (by omega) (by omega)).trans g5
  have r6 : ab_I G h (b + 6) 16 f6 := (pF (b + 6) (by omega) (by omega)).trans g6
  have rC := (pF (b + 32) (by omega) (by omega)).trans hchk
  have r33 : ab_Q G h (b + 33) 3 16 fp := (pF (b + 33) (by omega) (by omega)).trans h33
  have r34 : ab_I G h (b + 34) 17 fb := (pF (b + 34) (by omega) (by omega)).trans h34
  have rT : tO G h t1 ((List.range 16).flatMap Lc) := H1.kept (fun a p1 p2 => pF a (by omega) (by omega))
  obtain ⟨x9, us9, sz9, ov9, ht9, ho9⟩ := H.ov
  have hlen : bgL Lc 16 ≤ 1500 := by obtain ⟨_, _, _, _, _, _, _, _, d1, _⟩ := H1; exact d1
  refine v_iload_n dX1_layOutBelow_49 rfl 1 rfl ?_
  refine v_iconst (v := 1) dX1_layOutBelow_50 (by decide) ?_
  refine v_iadd dX1_layOutBelow_51 ?_
  rw [nI_1]
  refine v_aload_n dX1_layOutBelow_52 rfl 4 rfl ?_
  refine v_getf 2 (ci := 0) (C := RX1) (T := TX1) (N := 6) rfl iwX1_layOutBelow_X1 (Nat.le_of_ble_eq_true rfl) (by first | decide +kernel | (change Cond.fieldLink RX1 _ _ _ _ ∈ wsX1_layOutBelow; decide +kernel)) dX1_layOutBelow_53 (by first | with_reducible assumption) rfl ?_
  refine v_alen (t := 3) dX1_layOutBelow_56 (fun _ => rfl) (by first | with_reducible assumption) rfl ?_
  refine v_icmp_lt (tgt := 61) dX1_layOutBelow_57 (by decide) (fun c_57 => ?_) (fun c_57 => ?_)
  · exact absurd c_57 (nI_nlt (a := w.length + 1) (b := 16) (by omega) (by omega))
  · exact v_ret rfl dX1_layOutBelow_60 (Nat.le_of_ble_eq_true rfl) (Nat.le_of_ble_eq_true rfl) (hk h hm9 P (by rw [lS_s, show (List.range pl).flatMap (fun i => if p3 i = c then lS pl p3 p4 mp Lc 0 (p4 i) (w ++ [i]) else []) = [] from List.flatMap_eq_nil_iff.mpr (fun i _ => by split <;> rfl), List.append_nil]; exact H))

set_option maxHeartbeats 4000000 in
set_option maxRecDepth 100000 in
theorem t_lbs (G : sv_G) (Qr : Option Value → sv_h → Nat → Prop) (h0 : sv_h) (z b : Nat) (k : Int32) (nc np pl : Nat) (R : Nat → Bool) (hm p3 p4 pa ma sz : Nat → Nat) (ly vo ar : Nat → Int32) (mp : Nat → mvT) (N : Nat → Nat) (Z9 : sx_ G h0 b k nc np pl R hm p3 p4 pa ma sz ly vo ar mp N) (c4 c5 : Value) (hchk : h0 (b + 32) = some (.inr (0, [.ref (b + 1), .ref (b + 35), .ref (b + 33), .ref (b + 34), c4, c5]))) (fp : Nat → Option Nat) (h33 : ab_Q G h0 (b + 33) 3 16 fp) (hfp : ∀ i, i < 16 → fp i = some (b + 164 + i)) (Lc : Nat → List (List Int64)) (fb : Nat → Int32) (h34 : ab_I G h0 (b + 34) 17 fb) (hfb : ∀ c, c ≤ 16 → fb c = nI (bgL Lc c)) (t1 t2 : Nat) (hd : t1 + 4 ≤ t2 ∨ t2 + 4 ≤ t1) (hta : b + 204 ≤ t1 ∧ t1 + 4 ≤ b + 220) (htb : b + 204 ≤ t2 ∧ t2 + 4 ≤ b + 220) (H1 : tO G h0 t1 ((List.range 16).flatMap Lc)) (hok : ∀ c, c < 16 → ∀ x, x < (Lc c).length → rok ((Lc c).getD x [])) (hMB : ∀ i, i < pl → mvB mp i) (top9 : Nat) (hL0 : ∀ i, i < pl → gr_R pl p3 p4 top9 (p3 i) → N (p4 i) = 0 → ∀ f w, lS pl p3 p4 mp Lc f (p4 i) w = []) (f : Nat) (w : List Nat) (hw : w.length + ((f + 1) + 1) = 16) (hwp : ∀ i, i ∈ w → i < pl) (c : Nat) (hc : c < nc) (hcW : gr_R pl p3 p4 top9 c) (E : List (List Int64)) (IH : ∀ (w : List Nat) (c : Nat) (E : List (List Int64)) (h : sv_h) (hm9 : Int32), w.length + (f + 1) = 16 → (∀ i, i ∈ w → i < pl) → c < nc → gr_R pl p3 p4 top9 c → lp_ b mp h0 h t2 w → tE G h t2 hm9 E → CT G (mLb f) [.ref (b + 32), .ref t1, .int (nI c), .int (nI w.length), .ref t2] h z (fun v h1 z1 => v = none ∧ z1 = z ∧ lp_ b mp h0 h1 t2 w ∧ ∃ hm1 : Int32, tE G h1 t2 hm1 (E ++ lS pl p3 p4 mp Lc (f + 1) c w))) (h : sv_h) (hm9 : Int32) (P : lp_ b mp h0 h t2 w) (H : tE G h t2 hm9 (E ++ (Lc c).map (mvR (mvW mp w)))) (hk : ∀ (h : sv_h) (hm9 : Int32), lp_ b mp h0 h t2 w → tE G h t2 hm9 (E ++ lS pl p3 p4 mp Lc ((f + 1) + 1) c w) → Qr none h z) : V G (mLb (f + 1)) (sv_MQ G (mLb (f + 1)) Qr) 49 [(4, .ref t2), (3, .int (nI w.length)), (2, .int (nI c)), (1, .ref t1), (0, .ref (b + 32))] [] h z 0 0 := by
  obtain ⟨g1, _, ⟨f3, g3, g3a⟩, ⟨f4, g4, g4a⟩, ⟨f5, g5, g5a⟩, ⟨f6, g6, g6a⟩, gp, gm, gn, gnp, gpl⟩ := id Z9
  obtain ⟨pA, pB, pF⟩ := id P
  have r1 := (pF (b + 1) (by omega) (by omega)).trans g1
  have r3 : ab_I G h (b + 3) 32 f3 := (pF (b + 3) (by omega) (by omega)).trans g3
  have r4 : ab_I G h (b + 4) 32 f4 := (pF (b + 4) (by omega) (by omega)).trans g4
  have r5 : ab_Q G h (b + 5) 3 32 f5 := (pF (b + 5) (by omega) (by omega)).trans g5
  have r6 : ab_I G h (b + 6) 16 f6 := (pF (b + 6) (by omega) (by omega)).trans g6
  have rC := (pF (b + 32) (by omega) (by omega)).trans hchk
  have r33 : ab_Q G h (b + 33) 3 16 fp := (pF (b + 33) (by omega) (by omega)).trans h33
  have r34 : ab_I G h (b + 34) 17 fb := (pF (b + 34) (by omega) (by omega)).trans h34
  have rT : tO G h t1 ((List.range 16).flatMap Lc) := H1.kept (fun a p1 p2 => pF a (by omega) (by omega))
  obtain ⟨x9, us9, sz9, ov9, ht9, ho9⟩ := H.ov
  have hlen : bgL Lc 16 ≤ 1500 := by obtain ⟨_, _, _, _, _, _, _, _, d1, _⟩ := H1; exact d1
  refine v_iload_n dX1_layOutBelow_49 rfl 1 rfl ?_
  refine v_iconst (v := 1) dX1_layOutBelow_50 (by decide) ?_
  refine v_iadd dX1_layOutBelow_51 ?_
  rw [nI_1]
  refine v_aload_n dX1_layOutBelow_52 rfl 4 rfl ?_
  refine v_getf 2 (ci := 0) (C := RX1) (T := TX1) (N := 6) rfl iwX1_layOutBelow_X1 (Nat.le_of_ble_eq_true rfl) (by first | decide +kernel | (change Cond.fieldLink RX1 _ _ _ _ ∈ wsX1_layOutBelow; decide +kernel)) dX1_layOutBelow_53 (by first | with_reducible assumption) rfl ?_
  refine v_alen (t := 3) dX1_layOutBelow_56 (fun _ => rfl) (by first | with_reducible assumption) rfl ?_
  refine v_icmp_lt (tgt := 61) dX1_layOutBelow_57 (by decide) (fun c_57 => ?_) (fun c_57 => ?_)
  · refine v_iconst (v := 0) dX1_layOutBelow_61 (by decide) ?_
    refine v_istore (L' := [(5, _), (4, _), (3, _), (2, _), (1, _), (0, _)]) dX1_layOutBelow_62 (Nat.le_of_ble_eq_true rfl) rfl ?_
    refine v_sub (L' := [(5, _), (4, _), (3, _), (2, _), (1, _), (0, _)]) [0, 1, 2, 3, 4, 5] rfl ?_
    refine l_lbP G Qr h0 _ b k nc np pl R hm p3 p4 pa ma sz ly vo ar mp N Z9 c4 c5 hchk fp h33 hfp Lc fb h34 hfb t1 t2 hd hta htb H1 hok hMB top9 hL0 f w (by omega) hwp c hc hcW _ IH (fun h1 hm1 P1 H1_ => hk h1 hm1 P1 (by rw [lS_s, ← List.append_assoc]; exact H1_)) pl 0 h hm9 (Nat.zero_add _) P ?_
    exact (by rw [show ((List.range 0).flatMap (fun i => if p3 i = c then lS pl p3 p4 mp Lc (f + 1) (p4 i) (w ++ [i]) else [])) = [] from rfl, List.append_nil]; exact H)
  · exact absurd (nI_lt (a := w.length + 1) (b := 16) (by omega) (by decide)) c_57

set_option maxHeartbeats 4000000 in
set_option maxRecDepth 100000 in
theorem c_below (G : sv_G) (h0 : sv_h) (z b : Nat) (k : Int32) (nc np pl : Nat) (R : Nat → Bool) (hm p3 p4 pa ma sz : Nat → Nat) (ly vo ar : Nat → Int32) (mp : Nat → mvT) (N : Nat → Nat) (Z9 : sx_ G h0 b k nc np pl R hm p3 p4 pa ma sz ly vo ar mp N) (c4 c5 : Value) (hchk : h0 (b + 32) = some (.inr (0, [.ref (b + 1), .ref (b + 35), .ref (b + 33), .ref (b + 34), c4, c5]))) (fp : Nat → Option Nat) (h33 : ab_Q G h0 (b + 33) 3 16 fp) (hfp : ∀ i, i < 16 → fp i = some (b + 164 + i)) (Lc : Nat → List (List Int64)) (fb : Nat → Int32) (h34 : ab_I G h0 (b + 34) 17 fb) (hfb : ∀ c, c ≤ 16 → fb c = nI (bgL Lc c)) (t1 t2 : Nat) (hd : t1 + 4 ≤ t2 ∨ t2 + 4 ≤ t1) (hta : b + 204 ≤ t1 ∧ t1 + 4 ≤ b + 220) (htb : b + 204 ≤ t2 ∧ t2 + 4 ≤ b + 220) (H1 : tO G h0 t1 ((List.range 16).flatMap Lc)) (hok : ∀ c, c < 16 → ∀ x, x < (Lc c).length → rok ((Lc c).getD x [])) (hMB : ∀ i, i < pl → mvB mp i) (top9 : Nat) (hL0 : ∀ i, i < pl → gr_R pl p3 p4 top9 (p3 i) → N (p4 i) = 0 → ∀ f w, lS pl p3 p4 mp Lc f (p4 i) w = []) : ∀ (f : Nat) (w : List Nat) (c : Nat) (E : List (List Int64)) (h : sv_h) (hm9 : Int32), w.length + (f + 1) = 16 → (∀ i, i ∈ w → i < pl) → c < nc → gr_R pl p3 p4 top9 c → lp_ b mp h0 h t2 w → tE G h t2 hm9 E → CT G (mLb f) [.ref (b + 32), .ref t1, .int (nI c), .int (nI w.length), .ref t2] h z (fun v h1 z1 => v = none ∧ z1 = z ∧ lp_ b mp h0 h1 t2 w ∧ ∃ hm1 : Int32, tE G h1 t2 hm1 (E ++ lS pl p3 p4 mp Lc (f + 1) c w)) := by
  intro f
  induction f with
  | zero =>
    intro w c E h hm9 hw hwp hc hcW P H
    obtain ⟨g1, _, ⟨f3, g3, g3a⟩, ⟨f4, g4, g4a⟩, ⟨f5, g5, g5a⟩, ⟨f6, g6, g6a⟩, gp, gm, gn, gnp, gpl⟩ := id Z9
    obtain ⟨pA, pB, pF⟩ := id P
    have r1 := (pF (b + 1) (by omega) (by omega)).trans g1
    have r3 : ab_I G h (b + 3) 32 f3 := (pF (b + 3) (by omega) (by omega)).trans g3
    have r4 : ab_I G h (b + 4) 32 f4 := (pF (b + 4) (by omega) (by omega)).trans g4
    have r5 : ab_Q G h (b + 5) 3 32 f5 := (pF (b + 5) (by omega) (by omega)).trans g5
    have r6 : ab_I G h (b + 6) 16 f6 := (pF (b + 6) (by omega) (by omega)).trans g6
    have rC := (pF (b + 32) (by omega) (by omega)).trans hchk
    have r33 : ab_Q G h (b + 33) 3 16 fp := (pF (b + 33) (by omega) (by omega)).trans h33
    have r34 : ab_I G h (b + 34) 17 fb := (pF (b + 34) (by omega) (by omega)).trans h34
    have rT : tO G h t1 ((List.range 16).flatMap Lc) := H1.kept (fun a p1 p2 => pF a (by omega) (by omega))
    obtain ⟨x9, us9, sz9, ov9, ht9, ho9⟩ := H.ov
    have hlen : bgL Lc 16 ≤ 1500 := by obtain ⟨_, _, _, _, _, _, _, _, d1, _⟩ := H1; exact d1
    refine CT.of (by change plainName RX1 = true; decide +kernel) rfl rfl (Nat.le_of_ble_eq_true rfl) ?_
    refine v_aload_n dX1_layOutBelow_0 rfl 0 rfl ?_
    refine v_getf 3 (ci := 0) (C := RX1) (T := TX1) (N := 6) rfl iwX1_layOutBelow_X1 (Nat.le_of_ble_eq_true rfl) (by first | decide +kernel | (change Cond.fieldLink RX1 _ _ _ _ ∈ wsX1_layOutBelow; decide +kernel)) dX1_layOutBelow_1 (by first | with_reducible assumption) rfl ?_
    refine v_iload_n dX1_layOutBelow_4 rfl 2 rfl ?_
    refine v_ialdS (v := nI (bgL Lc c)) dX1_layOutBelow_5 (by first | with_reducible assumption) (vp_in_nI (by omega) (by omega)) (by rw [nI_clamp (by omega)]; exact hfb c (by omega)) ?_
    refine v_istore (L' := [(5, _), (0, _), (1, _), (2, _), (3, _), (4, _)]) dX1_layOutBelow_6 (Nat.le_of_ble_eq_true rfl) rfl ?_
    refine v_sub (L' := [(5, _), (4, _), (3, _), (2, _), (1, _), (0, _)]) [0, 5, 4, 3, 2, 1] rfl ?_
    refine l_lbO G _ h0 _ b k nc np pl R hm p3 p4 pa ma sz ly vo ar mp N Z9 c4 c5 hchk fp h33 hfp Lc fb h34 hfb t1 t2 hd hta htb H1 hok hMB top9 hL0 0 w (by omega) hwp c hc E (fun h1 hm1 P1 H1_ => ?_) (Lc c).length 0 h hm9 (Nat.zero_add _) P (by rw [List.take_zero, List.map_nil, List.append_nil]; exact H)
    exact t_lbz G _ h0 _ b k nc np pl R hm p3 p4 pa ma sz ly vo ar mp N Z9 c4 c5 hchk fp h33 hfp Lc fb h34 hfb t1 t2 hd hta htb H1 hok hMB top9 hL0 w hw hwp c hc hcW E h1 hm1 P1 H1_ (fun h2 hm2 P2 H2 => ⟨rfl, rfl, P2, hm2, H2⟩)
  | succ f ih =>
    intro w c E h hm9 hw hwp hc hcW P H
    obtain ⟨g1, _, ⟨f3, g3, g3a⟩, ⟨f4, g4, g4a⟩, ⟨f5, g5, g5a⟩, ⟨f6, g6, g6a⟩, gp, gm, gn, gnp, gpl⟩ := id Z9
    obtain ⟨pA, pB, pF⟩ := id P
    have r1 := (pF (b + 1) (by omega) (by omega)).trans g1
    have r3 : ab_I G h (b + 3) 32 f3 := (pF (b + 3) (by omega) (by omega)).trans g3
    have r4 : ab_I G h (b + 4) 32 f4 := (pF (b + 4) (by omega) (by omega)).trans g4
    have r5 : ab_Q G h (b + 5) 3 32 f5 := (pF (b + 5) (by omega) (by omega)).trans g5
    have r6 : ab_I G h (b + 6) 16 f6 := (pF (b + 6) (by omega) (by omega)).trans g6
    have rC := (pF (b + 32) (by omega) (by omega)).trans hchk
    have r33 : ab_Q G h (b + 33) 3 16 fp := (pF (b + 33) (by omega) (by omega)).trans h33
    have r34 : ab_I G h (b + 34) 17 fb := (pF (b + 34) (by omega) (by omega)).trans h34
    have rT : tO G h t1 ((List.range 16).flatMap Lc) := H1.kept (fun a p1 p2 => pF a (by omega) (by omega))
    obtain ⟨x9, us9, sz9, ov9, ht9, ho9⟩ := H.ov
    have hlen : bgL Lc 16 ≤ 1500 := by obtain ⟨_, _, _, _, _, _, _, _, d1, _⟩ := H1; exact d1
    refine CT.of (by change plainName RX1 = true; decide +kernel) rfl rfl (Nat.le_of_ble_eq_true rfl) ?_
    refine v_aload_n dX1_layOutBelow_0 rfl 0 rfl ?_
    refine v_getf 3 (ci := 0) (C := RX1) (T := TX1) (N := 6) rfl iwX1_layOutBelow_X1 (Nat.le_of_ble_eq_true rfl) (by first | decide +kernel | (change Cond.fieldLink RX1 _ _ _ _ ∈ wsX1_layOutBelow; decide +kernel)) dX1_layOutBelow_1 (by first | with_reducible assumption) rfl ?_
    refine v_iload_n dX1_layOutBelow_4 rfl 2 rfl ?_
    refine v_ialdS (v := nI (bgL Lc c)) dX1_layOutBelow_5 (by first | with_reducible assumption) (vp_in_nI (by omega) (by omega)) (by rw [nI_clamp (by omega)]; exact hfb c (by omega)) ?_
    refine v_istore (L' := [(5, _), (0, _), (1, _), (2, _), (3, _), (4, _)]) dX1_layOutBelow_6 (Nat.le_of_ble_eq_true rfl) rfl ?_
    refine v_sub (L' := [(5, _), (4, _), (3, _), (2, _), (1, _), (0, _)]) [0, 5, 4, 3, 2, 1] rfl ?_
    refine l_lbO G _ h0 _ b k nc np pl R hm p3 p4 pa ma sz ly vo ar mp N Z9 c4 c5 hchk fp h33 hfp Lc fb h34 hfb t1 t2 hd hta htb H1 hok hMB top9 hL0 (f + 1) w (by omega) hwp c hc E (fun h1 hm1 P1 H1_ => ?_) (Lc c).length 0 h hm9 (Nat.zero_add _) P (by rw [List.take_zero, List.map_nil, List.append_nil]; exact H)
    exact t_lbs G _ h0 _ b k nc np pl R hm p3 p4 pa ma sz ly vo ar mp N Z9 c4 c5 hchk fp h33 hfp Lc fb h34 hfb t1 t2 hd hta htb H1 hok hMB top9 hL0 f w hw hwp c hc hcW E ih h1 hm1 P1 H1_ (fun h2 hm2 P2 H2 => ⟨rfl, rfl, P2, hm2, H2⟩)

