set_option maxHeartbeats 4000000 in
set_option maxRecDepth 100000 in
theorem m_isLaidOut (G : sv_G) (z b nc np pl : Nat) (R : Nat → Bool) (hm p3 p4 sz : Nat → Nat) (ly vo : Nat → Int32) (mp : Nat → mvT) (X Y : Nat → Nat → Int) (hb : sv_h) (fs0 : List Value) (hq0 : mfq_ b nc np pl fs0) (MY : myl_ G hb b nc np pl R hm p3 p4 sz ly vo mp X Y) (r : Nat) (hr : r < 1500) (x0 y0 x1 y1 aI eI m : Int) (tc : Nat) (hx4 : (-200000 ≤ x0 ∧ x0 ≤ 200000) ∧ (-200000 ≤ y0 ∧ y0 ≤ 200000) ∧ (-200000 ≤ x1 ∧ x1 ≤ 200000) ∧ (-200000 ≤ y1 ∧ y1 ≤ 200000)) (FL : List (List Int64)) (hF15 : FL.length ≤ 1500) (f64 : fs0[64]? = some (.int (nI FL.length))) (ft : Nat → Int64) (A59 : ab_J G hb (b + 259) 10500 ft) (hft : ∀ k9 j9, k9 < FL.length → j9 < 7 → ft (7 * k9 + j9) = (FL.getD k9 []).getD j9 0) (hMBw : ∀ w : List Nat, (∀ i, i ∈ w → i < pl) → w.length < 16 → ∀ x y : Int, -200000 ≤ x ∧ x ≤ 200000 → -200000 ≤ y ∧ y ≤ 200000 → (-1000000000 ≤ (mvA (mvW mp w) (x, y)).1 ∧ (mvA (mvW mp w) (x, y)).1 ≤ 1000000000) ∧ (-1000000000 ≤ (mvA (mvW mp w) (x, y)).2 ∧ (mvA (mvW mp w) (x, y)).2 ≤ 1000000000)) (top : Nat) (htop : top < nc) (rk : Nat → Nat) (hrk : ∀ i, i < pl → rk (p4 i) < rk (p3 i)) (SZ : szc_ G hb b nc np pl R hm p3 p4) (htc : tc < nc) (hF : ∀ w, vwy pl p3 p4 top w tc → w.length < 16 → FL.any (fun y => alk y (xrW mp x0 y0 x1 y1 aI eI m (tc : Int) w) 7) = true) (hSk : ∀ i, i < pl → gr_R pl p3 p4 top (p3 i) → oc_n np pl R hm p3 p4 16 (p4 i) = 0 → ∀ f w, lS pl p3 p4 mp (sgl tc (rwI x0 y0 x1 y1 aI eI m (tc : Int))) f (p4 i) w = []) (gt0 : Nat → Int64) (hrow : (gt0 (12 * r + 4) = jN aI ∧ gt0 (12 * r + 5) = jN eI ∧ gt0 (12 * r + 6) = jN m ∧ gt0 (12 * r + 7) = jN (tc : Int)) ∧ gt0 (12 * r + 8) = jN x0 ∧ gt0 (12 * r + 9) = jN y0 ∧ gt0 (12 * r + 10) = jN x1 ∧ gt0 (12 * r + 11) = jN y1) (V0 : List (List Int64)) (t41 : ab_J G hb (b + 241) 36048 gt0) (MT0 : ∃ mt, ab_Z G hb (b + 260) 1500 mt ∧ ∀ i9, i9 < FL.length → mt i9 = bI ((fun i9 => (V0).any (fun x => alk (FL.getD i9 []) x 7)) i9)) (A46 : ∃ f, ab_I G hb (b + 246) 1616 f) (A47 : ∃ f, ab_I G hb (b + 247) 17 f) (mo : Value) (h60 : fs0[60]? = some mo) (hrn : ∀ c, c < nc → rk c < nc) (hm0 : hb (b + 220) = some (.inr (11, fs0))) : CT G mX13_isLaidOut [.ref (b + 220), .int (nI top), .int (nI (12 * r))] hb z (fun v h1 z1 => v = some (.int 1) ∧ z1 = z ∧ ∃ fs1, h1 (b + 220) = some (.inr (11, fs1)) ∧ fs1.length = 71 ∧ fsE [41, 52, 53, 60, 61] fs0 fs1 ∧ (∃ gt, ab_J G h1 (b + 241) 36048 gt ∧ ∀ a, ¬ (12 * r ≤ a ∧ a < 12 * r + 4) → gt a = gt0 a) ∧ (∃ mt, ab_Z G h1 (b + 260) 1500 mt ∧ ∀ i9, i9 < FL.length → mt i9 = bI ((fun i9 => (V0 ++ (lS pl p3 p4 mp (sgl tc (rwI x0 y0 x1 y1 aI eI m (tc : Int))) 16 top [])).any (fun x => alk (FL.getD i9 []) x 7)) i9)) ∧ (∃ f, ab_I G h1 (b + 246) 1616 f) ∧ (∃ f, ab_I G h1 (b + 247) 17 f) ∧ ∀ a, a ≠ b + 220 → a ≠ b + 241 → a ≠ b + 246 → a ≠ b + 247 → a ≠ b + 260 → h1 a = hb a) := by
  refine CT.of (by decide +kernel) rfl rfl (Nat.le_of_ble_eq_true rfl) ?_
  have hlen : fs0.length = 71 := hq0.1
  obtain ⟨_, _, _, _, _, _, _, _, _, _, _, yB, yC, yD, yE, yF⟩ := id MY
  obtain ⟨f46, v46⟩ := A46
  obtain ⟨f47, v47⟩ := A47
  obtain ⟨mt0, mt1, mt2⟩ := MT0
  have f_told := hq0.f_told
  have hEND : ∀ (h : sv_h) (fs : List Value), h (b + 220) = some (.inr (11, fs)) → fs.length = 71 → fsE [41, 52, 53, 60, 61] fs0 fs → fs[41]? = some (.int (nI (([] : List Nat)).length)) → mst_ G h b (([] : List Nat)) → (∃ gt, ab_J G h (b + 241) 36048 gt ∧ ∀ a, ¬ (12 * r ≤ a ∧ a < 12 * r + 4) → gt a = gt0 a) → (∃ mt, ab_Z G h (b + 260) 1500 mt ∧ ∀ i9, i9 < FL.length → mt i9 = bI ((fun i9 => (V0 ++ (lS pl p3 p4 mp (sgl tc (rwI x0 y0 x1 y1 aI eI m (tc : Int))) 16 top [])).any (fun x => alk (FL.getD i9 []) x 7)) i9)) → (∃ f, ab_I G h (b + 246) 1616 f) → (∀ a, a ≠ b + 220 → a ≠ b + 241 → a ≠ b + 246 → a ≠ b + 247 → a ≠ b + 260 → h a = hb a) → V G mX13_isLaidOut (sv_MQ G mX13_isLaidOut (fun v h1 z1 => v = some (.int 1) ∧ z1 = z ∧ ∃ fs1, h1 (b + 220) = some (.inr (11, fs1)) ∧ fs1.length = 71 ∧ fsE [41, 52, 53, 60, 61] fs0 fs1 ∧ (∃ gt, ab_J G h1 (b + 241) 36048 gt ∧ ∀ a, ¬ (12 * r ≤ a ∧ a < 12 * r + 4) → gt a = gt0 a) ∧ (∃ mt, ab_Z G h1 (b + 260) 1500 mt ∧ ∀ i9, i9 < FL.length → mt i9 = bI ((fun i9 => (V0 ++ (lS pl p3 p4 mp (sgl tc (rwI x0 y0 x1 y1 aI eI m (tc : Int))) 16 top [])).any (fun x => alk (FL.getD i9 []) x 7)) i9)) ∧ (∃ f, ab_I G h1 (b + 246) 1616 f) ∧ (∃ f, ab_I G h1 (b + 247) 17 f) ∧ ∀ a, a ≠ b + 220 → a ≠ b + 241 → a ≠ b + 246 → a ≠ b + 247 → a ≠ b + 260 → h1 a = hb a)) 41 [(4, .int (nI pl)), (3, .int 1), (2, .int (nI (12 * r))), (1, .int (nI top)), (0, .ref (b + 220))] [] h z 0 0 := (by
      intro h fs hm9 hl hE f_deep MS GT MT A46_ fr
      have hlen2 : fs.length = 71 := hl
      have hqf := hq0.to (S := [41, 52, 53, 60, 61]) hl hE (by decide)
      have f_places := hqf.f_places
      refine v_iload_n dX13_isLaidOut_41 rfl 1 rfl ?_
      refine v_if_eq (tgt := 232) dX13_isLaidOut_42 (by decide) (fun c_42 => ?_) (fun c_42 => ?_)
      · exact absurd c_42 (by decide)
      · refine v_aload_n dX13_isLaidOut_45 rfl 4 rfl ?_
        refine v_getf 41 (ci := 11) (C := RX13) (T := TX13) (N := 71) rfl iwX13_isLaidOut_X13 (Nat.le_of_ble_eq_true rfl) (by decide +kernel) dX13_isLaidOut_46 (by first | with_reducible assumption) (by repeat (first | with_reducible assumption | (with_reducible refine (sv_ls (by first | omega | (simp only [List.length_set]; omega))).trans ?_; exact rfl) | with_reducible refine (List.getElem?_set_ne (by decide)).trans ?_)) ?_
        refine v_if_gt (tgt := 61) dX13_isLaidOut_49 (by decide) (fun c_49 => ?_) (fun c_49 => ?_)
        · exact absurd c_49 (by decide)
        · refine v_iload dX13_isLaidOut_52 0 rfl ?_
          refine v_aload_n dX13_isLaidOut_54 rfl 4 rfl ?_
          refine v_getf 10 (ci := 11) (C := RX13) (T := TX13) (N := 71) rfl iwX13_isLaidOut_X13 (Nat.le_of_ble_eq_true rfl) (by decide +kernel) dX13_isLaidOut_55 (by first | with_reducible assumption) (by repeat (first | with_reducible assumption | (with_reducible refine (sv_ls (by first | omega | (simp only [List.length_set]; omega))).trans ?_; exact rfl) | with_reducible refine (List.getElem?_set_ne (by decide)).trans ?_)) ?_
          refine v_icmp_ge (tgt := 232) dX13_isLaidOut_58 (by decide) (fun c_58 => ?_) (fun c_58 => ?_)
          · refine v_iload_n dX13_isLaidOut_232 rfl 1 rfl ?_
            exact v_iret rfl dX13_isLaidOut_233 (Nat.le_of_ble_eq_true rfl) (Nat.le_of_ble_eq_true rfl) rfl ⟨rfl, rfl, fs, hm9, hl, hE, GT, MT, A46_, ⟨_, MS.choose_spec.1⟩, fr⟩
          · exact absurd (nI_le (Nat.le_refl _) (by omega)) c_58)
  have FIN9 : ∀ (V2 : List (List Int64)) (h1 : sv_h) (fs1 : List Value), V2 = ((sgl tc (rwI x0 y0 x1 y1 aI eI m (tc : Int))) top).map (mvR (mvW mp [])) → h1 (b + 220) = some (.inr (11, fs1)) → fs1.length = 71 → fsE [41, 52, 53, 60, 61] fs0 fs1 → fs1[41]? = some (.int (nI (([] : List Nat)).length)) → mst_ G h1 b (([] : List Nat)) → (∃ gt, ab_J G h1 (b + 241) 36048 gt ∧ ∀ a, ¬ (12 * r ≤ a ∧ a < 12 * r + 4) → gt a = gt0 a) → (∃ mt, ab_Z G h1 (b + 260) 1500 mt ∧ ∀ i9, i9 < FL.length → mt i9 = bI ((fun i9 => (V0 ++ V2).any (fun x => alk (FL.getD i9 []) x 7)) i9)) → (∃ f, ab_I G h1 (b + 246) 1616 f) → (∀ a, a ≠ b + 220 → a ≠ b + 241 → a ≠ b + 246 → a ≠ b + 247 → a ≠ b + 260 → h1 a = hb a) → V G mX13_isLaidOut (sv_MQ G mX13_isLaidOut (fun v h1 z1 => v = some (.int 1) ∧ z1 = z ∧ ∃ fs1, h1 (b + 220) = some (.inr (11, fs1)) ∧ fs1.length = 71 ∧ fsE [41, 52, 53, 60, 61] fs0 fs1 ∧ (∃ gt, ab_J G h1 (b + 241) 36048 gt ∧ ∀ a, ¬ (12 * r ≤ a ∧ a < 12 * r + 4) → gt a = gt0 a) ∧ (∃ mt, ab_Z G h1 (b + 260) 1500 mt ∧ ∀ i9, i9 < FL.length → mt i9 = bI ((fun i9 => (V0 ++ (lS pl p3 p4 mp (sgl tc (rwI x0 y0 x1 y1 aI eI m (tc : Int))) 16 top [])).any (fun x => alk (FL.getD i9 []) x 7)) i9)) ∧ (∃ f, ab_I G h1 (b + 246) 1616 f) ∧ (∃ f, ab_I G h1 (b + 247) 17 f) ∧ ∀ a, a ≠ b + 220 → a ≠ b + 241 → a ≠ b + 246 → a ≠ b + 247 → a ≠ b + 260 → h1 a = hb a)) 41 [(4, .int 0), (3, .int 1), (2, .int (nI (12 * r))), (1, .int (nI top)), (0, .ref (b + 220))] [] h1 z 0 0 := (by
    intro V2 h1 fs1 hV b1 b2 b3 b4 b5 b6 b7 b8 b9
    have eV : (V0 ++ V2) ++ dR (fwL pl p3 p4 mp (sgl tc (rwI x0 y0 x1 y1 aI eI m (tc : Int))) 15 top []) 0 pl = V0 ++ (lS pl p3 p4 mp (sgl tc (rwI x0 y0 x1 y1 aI eI m (tc : Int))) 16 top []) := (by rw [lS_fw, hV, List.append_assoc])
    by_cases hz9 : 0 < pl
    · refine t_il41 G _ z b nc np pl R hm p3 p4 sz ly vo mp X Y hb fs0 hq0 MY r hr x0 y0 x1 y1 aI eI m tc hx4 FL hF15 f64 ft A59 hft hMBw top htop rk hrk SZ htc hF hSk gt0 hrow [] (fun i hi => absurd hi (List.not_mem_nil)) 0 (Nat.zero_le _) (Or.inr hz9) _ h1 fs1 b1 b2 b3 b4 b5 b6 b7 b8 b9 ?_
      refine l_il G _ z b nc np pl R hm p3 p4 sz ly vo mp X Y hb fs0 hq0 MY r hr x0 y0 x1 y1 aI eI m tc hx4 FL hF15 f64 ft A59 hft hMBw top htop rk hrk SZ htc hF hSk gt0 hrow 15 [] top rfl rfl (by have := hrn top htop; omega) (by decide) (fun i hi => absurd hi (List.not_mem_nil)) pl 0 _ h1 fs1 (Nat.zero_add _) ?_ ?_ b1 b2 b3 b4 b5 b6 b7 b8 b9
      · intro h3 fs3 a1 a2 a3 a4 a5 a6 a7 a8 a9
        refine t_il173z G _ z b nc np pl R hm p3 p4 sz ly vo mp X Y hb fs0 hq0 MY r hr x0 y0 x1 y1 aI eI m tc hx4 FL hF15 f64 ft A59 hft hMBw top htop rk hrk SZ htc hF hSk gt0 hrow top pl _ h3 fs3 a1 a2 a3 a4 a5 a6 a7 a8 a9 ?_
        intro h4 fs4 d1_ d2_ d3_ d4_ d5_ d6_ d7_ d8_ d9_
        rw [eV] at d7_
        exact hEND h4 fs4 d1_ d2_ d3_ d4_ d5_ d6_ d7_ d8_ d9_
      · intro _ h4 fs4 d1_ d2_ d3_ d4_ d5_ d6_ d7_ d8_ d9_
        rw [eV] at d7_
        exact hEND h4 fs4 d1_ d2_ d3_ d4_ d5_ d6_ d7_ d8_ d9_
    · have e9 : pl = 0 := by omega
      rw [show dR (fwL pl p3 p4 mp (sgl tc (rwI x0 y0 x1 y1 aI eI m (tc : Int))) 15 top []) 0 pl = [] from dR_z e9, List.append_nil] at eV
      rw [eV] at b7
      have hh := hEND h1 fs1 b1 b2 b3 b4 b5 b6 b7 b8 b9
      rw [show nI pl = (0 : Int32) from (congrArg nI e9).trans rfl] at hh
      exact hh)
  refine v_iconst (v := 1) dX13_isLaidOut_0 (by decide) ?_
  refine v_istore_n (L' := [(3, _), (0, _), (1, _), (2, _)]) dX13_isLaidOut_1 rfl (Nat.le_of_ble_eq_true rfl) rfl ?_
  refine v_aload_n dX13_isLaidOut_2 rfl 1 rfl ?_
  refine v_iconst (v := 0) dX13_isLaidOut_3 (by decide) ?_
  refine v_putf 41 (fs' := _) (ci := 11) (C := RX13) (T := TX13) (N := 71) (ty := .int) rfl iwX13_isLaidOut_X13 tyX13 tyX13_ok nmX13 (Nat.le_of_ble_eq_true rfl) (by decide +kernel) rfl rfl dX13_isLaidOut_4 rfl rfl (by repeat (first | with_reducible assumption | (with_reducible refine sv_us.trans ?_; exact rfl) | with_reducible refine (sv_un (by omega)).trans ?_)) (by first | omega | (simp only [List.length_set]; omega)) rfl ?_
  refine v_iconst (v := 0) dX13_isLaidOut_7 (by decide) ?_
  refine v_istore (L' := [(4, _), (3, _), (0, _), (1, _), (2, _)]) dX13_isLaidOut_8 (Nat.le_of_ble_eq_true rfl) rfl ?_
  refine v_iload_n dX13_isLaidOut_10 rfl 3 rfl ?_
  refine v_i2l dX13_isLaidOut_11 rfl ?_
  refine v_aload_n dX13_isLaidOut_12 rfl 2 rfl ?_
  refine v_getf 27 (ci := 11) (C := RX13) (T := TX13) (N := 71) rfl iwX13_isLaidOut_X13 (Nat.le_of_ble_eq_true rfl) (by decide +kernel) dX13_isLaidOut_13 (by repeat (first | with_reducible assumption | (with_reducible refine sv_us.trans ?_; exact rfl) | with_reducible refine (sv_un (by omega)).trans ?_)) (by repeat (first | with_reducible assumption | (with_reducible refine (sv_ls (by first | omega | (simp only [List.length_set]; omega))).trans ?_; exact rfl) | with_reducible refine (List.getElem?_set_ne (by decide)).trans ?_)) ?_
  refine v_iload_n dX13_isLaidOut_16 rfl 4 rfl ?_
  refine v_bipush (v := 7) dX13_isLaidOut_17 (by decide) ?_
  refine v_iadd dX13_isLaidOut_19 ?_
  rw [sv_p7]
  refine v_laldS (v := jN (tc : Int)) dX13_isLaidOut_20 (by repeat (first | with_reducible assumption | (with_reducible refine sv_us.trans ?_; exact rfl) | with_reducible refine (sv_un (by omega)).trans ?_)) (vp_in_nI (by omega) (by omega)) (by rw [nI_clamp (by omega)]; exact hrow.1.2.2.2) ?_
  refine v_lcmp_ne (tgt := 41) dX13_isLaidOut_21 dX13_isLaidOut_22 (by decide) (fun c_22 => ?_) (fun c_22 => ?_)
  · refine v_sub (L' := [(4, _), (3, _), (2, _), (1, _), (0, _)]) [0, 1, 4, 3, 2] rfl ?_
    first
      | (have c9 := e22
         exact FIN9 [(xrW mp x0 y0 x1 y1 aI eI m (tc : Int) [])] h2 fs3 (by unfold sgl; rw [if_pos e22]; rfl) ((m3 _ (by omega)).trans u1) u2 E3 ((u3 41 (by decide)).trans ((List.getElem?_set_ne (by decide)).trans (sv_ls (by omega)))) ⟨f47, (m3 _ (by omega)).trans ((u4 _ (by omega) (by omega)).trans (((sv_un (by omega)).trans (sv_un (by omega))).trans v47)), by decide, fun k hk => absurd hk (Nat.not_lt_zero k)⟩ ⟨gt3, (m3 _ (by omega)).trans w1, w3⟩ ⟨mt4, m1, fun i9 q9 => (m2 i9 q9).trans (by show bI (V0.any _ || _) = bI ((V0 ++ [_]).any _); rw [List.any_append]; show _ = bI (_ || (_ || false)); rw [Bool.or_false])⟩ ⟨f46, (m3 _ (by omega)).trans ((u4 _ (by omega) (by omega)).trans (((sv_un (by omega)).trans (sv_un (by omega))).trans v46))⟩ (fun a p1 p2 p3_ p4_ p5 => (m3 a p5).trans ((u4 a p1 p2).trans ((sv_un p1).trans (sv_un p1)))))
      | (have e22 : ¬ top = tc := fun q => c_22 (by rw [q]; exact iN_64 (x := (tc : Int)) (by omega) (by omega))
         exact FIN9 [] _ _ (by unfold sgl; rw [if_neg e22]; rfl) sv_us (by rw [List.length_set]; exact hq0.1) (fsE.rf.st (by decide)) (sv_ls (by omega)) ⟨f47, (sv_un (by omega)).trans v47, by decide, fun k hk => absurd hk (Nat.not_lt_zero k)⟩ ⟨gt0, (sv_un (by omega)).trans t41, fun _ _ => rfl⟩ ⟨mt0, (sv_un (by omega)).trans mt1, by rw [List.append_nil]; exact mt2⟩ ⟨f46, (sv_un (by omega)).trans v46⟩ (fun a p1 p2 p3_ p4_ p5 => sv_un p1))
  · refine v_aload_n dX13_isLaidOut_25 rfl 2 rfl ?_
    refine v_iconst (v := 0) dX13_isLaidOut_26 (by decide) ?_
    refine v_putf 61 (fs' := _) (ci := 11) (C := RX13) (T := TX13) (N := 71) (ty := .int) rfl iwX13_isLaidOut_X13 tyX13 tyX13_ok nmX13 (Nat.le_of_ble_eq_true rfl) (by decide +kernel) rfl rfl dX13_isLaidOut_27 rfl rfl (by repeat (first | with_reducible assumption | (with_reducible refine sv_us.trans ?_; exact rfl) | with_reducible refine (sv_un (by omega)).trans ?_)) (by first | omega | (simp only [List.length_set]; omega)) rfl ?_
    refine v_aload_n dX13_isLaidOut_30 rfl 2 rfl ?_
    refine v_iload_n dX13_isLaidOut_31 rfl 4 rfl ?_
    refine v_callVq (M' := mX13_layOut) (n := 1) (As := [_]) (ci := 11) (r := (RX13, TX13, 71)) gX13_isLaidOut_X13_layOut rfl (by decide +kernel) ⟨(Nat.le_of_ble_eq_true rfl), (Nat.le_of_ble_eq_true rfl)⟩ rfl rfl dX13_isLaidOut_32 rfl ⟨(Nat.le_of_ble_eq_true rfl), (Nat.le_of_ble_eq_true rfl)⟩ (Nat.le_of_ble_eq_true rfl) (by repeat (first | with_reducible assumption | (with_reducible refine sv_us.trans ?_; exact rfl) | with_reducible refine (sv_un (by omega)).trans ?_)) rfl (ct_lm G _ b nc np pl R hm p3 p4 sz ly vo mp X Y hb fs0 hq0 MY r hr x0 y0 x1 y1 aI eI m tc hx4 FL hF15 f64 ft A59 hft hMBw [] (fun i hi => absurd hi (List.not_mem_nil)) (by decide) _ ((fs0.set 41 (.int 0)).set 61 (.int 0)) sv_us (hq0.to (S := [41, 52, 53, 60, 61]) (by rw [List.length_set, List.length_set]; exact hq0.1) ((fsE.rf.st (by decide)).st (by decide)) (by decide)) (MY.kp (fun a p1 p2 => (sv_un (by omega)).trans (sv_un (by omega)))) ((List.getElem?_set_ne (by decide)).trans ((List.getElem?_set_ne (by decide)).trans f64)) (((sv_un (by omega)).trans (sv_un (by omega))).trans A59) mo ((List.getElem?_set_ne (by decide)).trans ((List.getElem?_set_ne (by decide)).trans h60)) (sv_ls (by rw [List.length_set]; omega)) f46 (((sv_un (by omega)).trans (sv_un (by omega))).trans v46) (fun q => absurd q (by decide)) gt0 (((sv_un (by omega)).trans (sv_un (by omega))).trans t41) hrow V0 mt0 (((sv_un (by omega)).trans (sv_un (by omega))).trans mt1) mt2) (fun v9 h1 z1 hq9 => ?_)
    obtain ⟨rfl, rfl, ⟨fs3, u1, u2, u3⟩, ⟨gt3, w1, w2, w3⟩, u4⟩ := hq9
    have E3 : fsE [41, 52, 53, 60, 61] fs0 fs3 := ((fsE.rf.st (by decide)).st (by decide)).tr (u3.up (by decide))
    have hq3 := hq0.to (S := [41, 52, 53, 60, 61]) u2 E3 (by decide)
    refine v_aload_n dX13_isLaidOut_35 rfl 2 rfl ?_
    refine v_iload_n dX13_isLaidOut_36 rfl 4 rfl ?_
    refine v_callVq (M' := mX13_mark) (n := 1) (As := [_]) (ci := 11) (r := (RX13, TX13, 71)) gX13_isLaidOut_X13_mark rfl (by decide +kernel) ⟨(Nat.le_of_ble_eq_true rfl), (Nat.le_of_ble_eq_true rfl)⟩ rfl rfl dX13_isLaidOut_37 rfl ⟨(Nat.le_of_ble_eq_true rfl), (Nat.le_of_ble_eq_true rfl)⟩ (Nat.le_of_ble_eq_true rfl) (by repeat (first | with_reducible assumption | (with_reducible refine sv_us.trans ?_; exact rfl) | with_reducible refine (sv_un (by omega)).trans ?_)) rfl (m_mark G _ b nc np pl h1 fs3 hq3 u1 FL hF15 ((E3 64 (by decide)).trans f64) ft ((u4 _ (by omega) (by omega)).trans (((sv_un (by omega)).trans (sv_un (by omega))).trans A59)) hft r hr gt3 w1 (xrW mp x0 y0 x1 y1 aI eI m (tc : Int) []) w2 (fun i9 => (V0).any (fun x => alk (FL.getD i9 []) x 7)) mt0 ((u4 _ (by omega) (by omega)).trans (((sv_un (by omega)).trans (sv_un (by omega))).trans mt1)) mt2) (fun v9 h2 z2 hq9 => ?_)
    obtain ⟨rfl, rfl, ⟨mt4, m1, m2⟩, m3⟩ := hq9
    have e22 : top = tc := jN_n (by omega) (by omega) c_22
    rw [hF [] (by rw [← e22]; rfl) (by decide)]
    refine v_istore_n (L' := [(3, _), (4, _), (0, _), (1, _), (2, _)]) dX13_isLaidOut_40 rfl (Nat.le_of_ble_eq_true rfl) rfl ?_
    refine v_sub (L' := [(4, _), (3, _), (2, _), (1, _), (0, _)]) [1, 0, 4, 3, 2] rfl ?_
    first
      | (have c9 := e22
         exact FIN9 [(xrW mp x0 y0 x1 y1 aI eI m (tc : Int) [])] h2 fs3 (by unfold sgl; rw [if_pos e22]; rfl) ((m3 _ (by omega)).trans u1) u2 E3 ((u3 41 (by decide)).trans ((List.getElem?_set_ne (by decide)).trans (sv_ls (by omega)))) ⟨f47, (m3 _ (by omega)).trans ((u4 _ (by omega) (by omega)).trans (((sv_un (by omega)).trans (sv_un (by omega))).trans v47)), by decide, fun k hk => absurd hk (Nat.not_lt_zero k)⟩ ⟨gt3, (m3 _ (by omega)).trans w1, w3⟩ ⟨mt4, m1, fun i9 q9 => (m2 i9 q9).trans (by show bI (V0.any _ || _) = bI ((V0 ++ [_]).any _); rw [List.any_append]; show _ = bI (_ || (_ || false)); rw [Bool.or_false])⟩ ⟨f46, (m3 _ (by omega)).trans ((u4 _ (by omega) (by omega)).trans (((sv_un (by omega)).trans (sv_un (by omega))).trans v46))⟩ (fun a p1 p2 p3_ p4_ p5 => (m3 a p5).trans ((u4 a p1 p2).trans ((sv_un p1).trans (sv_un p1)))))
      | (have e22 : ¬ top = tc := fun q => c_22 (by rw [q]; exact iN_64 (x := (tc : Int)) (by omega) (by omega))
         exact FIN9 [] _ _ (by unfold sgl; rw [if_neg e22]; rfl) sv_us (by rw [List.length_set]; exact hq0.1) (fsE.rf.st (by decide)) (sv_ls (by omega)) ⟨f47, (sv_un (by omega)).trans v47, by decide, fun k hk => absurd hk (Nat.not_lt_zero k)⟩ ⟨gt0, (sv_un (by omega)).trans t41, fun _ _ => rfl⟩ ⟨mt0, (sv_un (by omega)).trans mt1, by rw [List.append_nil]; exact mt2⟩ ⟨f46, (sv_un (by omega)).trans v46⟩ (fun a p1 p2 p3_ p4_ p5 => sv_un p1))

