section GU
variable {gu : Nat → Int64}
theorem m_tellM (G : sv_G) (z b nc np pl : Nat) (R : Nat → Bool) (hm p3 p4 sz : Nat → Nat) (ly vo : Nat → Int32) (mp : Nat → mvT) (X Y : Nat → Nat → Int) (hb : sv_h) (fs0 : List Value) (hq0 : mfq_ b nc np pl fs0) (MY : myl_ G hb b nc np pl R hm p3 p4 sz ly vo mp X Y) (O : List (List Nat × Nat)) (MO : moc_ G hb b O) (o : Nat) (ho : o < O.length) (how : ∀ i, i ∈ (O.getD o ([], 0)).1 → i < pl) (d : Nat) (hd : d ≤ (O.getD o ([], 0)).1.length) (h60 : fs0[60]? = some (.int (nI o))) (h61 : fs0[61]? = some (.int (nI d))) (mc : Nat) (hmc : mc < 100) (h62 : fs0[62]? = some (.int (nI mc))) (hMB : ∀ x y : Int, -200000 ≤ x ∧ x ≤ 200000 → -200000 ≤ y ∧ y ≤ 200000 → (-1000000000 ≤ (mvA (mvW mp ((O.getD o ([], 0)).1.take d)) (x, y)).1 ∧ (mvA (mvW mp ((O.getD o ([], 0)).1.take d)) (x, y)).1 ≤ 1000000000) ∧ (-1000000000 ≤ (mvA (mvW mp ((O.getD o ([], 0)).1.take d)) (x, y)).2 ∧ (mvA (mvW mp ((O.getD o ([], 0)).1.take d)) (x, y)).2 ≤ 1000000000)) (h : sv_h) (fs : List Value) (hm9 : h (b + 220) = some (.inr (11, fs))) (hl : fs.length = 71) (hE : fsE [28, 29, 52, 53] fs0 fs) (fr : (∀ a, a ≠ b + 220 → a ≠ b + 241 → h a = hb a)) (E : List (List Int64)) (T : mT_ gu G h b fs E) (x0 y0 x1 y1 a c m : Int) (ha : -1000000 ≤ a ∧ a ≤ 1000000) (hc : -1000000 ≤ c ∧ c ≤ 1000000) (b0 : -200000 ≤ x0 ∧ x0 ≤ 200000) (b1 : -200000 ≤ y0 ∧ y0 ≤ 200000) (b2 : -200000 ≤ x1 ∧ x1 ≤ 200000) (b3 : -200000 ≤ y1 ∧ y1 ≤ 200000) (mL : Int64) (em : mL = jN m) (aI cI : Int32) (ea : aI = iN a) (ec : cI = iN c) : CT G mX13_tell [.ref (b + 220), .long (jN x0), .long (jN y0), .long (jN x1), .long (jN y1), .int aI, .int cI, .long mL] h z (fun v9 h1 z1 => v9 = none ∧ z1 = z ∧ ∃ fs1, h1 (b + 220) = some (.inr (11, fs1)) ∧ fs1.length = 71 ∧ fsE [28, 29, 52, 53] fs0 fs1 ∧ (∀ a, a ≠ b + 220 → a ≠ b + 241 → h1 a = hb a) ∧ mT_ gu G h1 b fs1 (E ++ [mvR (mvW mp ((O.getD o ([], 0)).1.take d)) (rwI x0 y0 x1 y1 a c m (mc : Int))])) := by
  subst em ea ec
  exact m_tell G z b nc np pl R hm p3 p4 sz ly vo mp X Y hb fs0 hq0 MY O MO o ho how d hd h60 h61 mc hmc h62 hMB h fs hm9 hl hE fr E T x0 y0 x1 y1 a c m ha hc b0 b1 b2 b3
set_option maxHeartbeats 4000000 in
set_option maxRecDepth 100000 in
theorem t_al22 (G : sv_G) (Qr : Option Value → sv_h → Nat → Prop) (z b nc np pl : Nat) (R : Nat → Bool) (hm p3 p4 sz : Nat → Nat) (ly vo : Nat → Int32) (mp : Nat → mvT) (X Y : Nat → Nat → Int) (hb : sv_h) (fs0 : List Value) (hq0 : mfq_ b nc np pl fs0) (MY : myl_ G hb b nc np pl R hm p3 p4 sz ly vo mp X Y) (O : List (List Nat × Nat)) (MO : moc_ G hb b O) (o : Nat) (ho : o < O.length) (how : ∀ i, i ∈ (O.getD o ([], 0)).1 → i < pl) (d : Nat) (hd : d ≤ (O.getD o ([], 0)).1.length) (h60 : fs0[60]? = some (.int (nI o))) (h61 : fs0[61]? = some (.int (nI d))) (mc : Nat) (hmc : mc < 100) (h62 : fs0[62]? = some (.int (nI mc))) (hMB : ∀ x y : Int, -200000 ≤ x ∧ x ≤ 200000 → -200000 ≤ y ∧ y ≤ 200000 → (-1000000000 ≤ (mvA (mvW mp ((O.getD o ([], 0)).1.take d)) (x, y)).1 ∧ (mvA (mvW mp ((O.getD o ([], 0)).1.take d)) (x, y)).1 ≤ 1000000000) ∧ (-1000000000 ≤ (mvA (mvW mp ((O.getD o ([], 0)).1.take d)) (x, y)).2 ∧ (mvA (mvW mp ((O.getD o ([], 0)).1.take d)) (x, y)).2 ≤ 1000000000)) (ri kd : Nat) (l1 l2 x3 x4 x5 x6 : Int32) (RU : mru_ G hb b ri kd l1 l2 x3 x4 x5 x6) (h58 : fs0[58]? = some (.int (nI ri))) (hen : x6 = -1 ∨ 0 ≤ x6) (n pg : Nat → Nat) (cc : Nat → Nat → Int × Int) (LD : mld_ G hb b 1 n pg cc) (LK : mlk_ 1 n pg cc) (hp : pg 0 < np) (hp0 : 0 < sz (pg 0)) (hpb : ∀ i, i < sz (pg 0) → (-200000 ≤ X (pg 0) i ∧ X (pg 0) i ≤ 200000) ∧ (-200000 ≤ Y (pg 0) i ∧ Y (pg 0) i ≤ 200000)) (f_bx0 : fs0[54]? = some (.long (jN (bxk (cc 0) (n 0 - 1) 0)))) (f_by0 : fs0[55]? = some (.long (jN (bxk (cc 0) (n 0 - 1) 1)))) (f_bx1 : fs0[56]? = some (.long (jN (bxk (cc 0) (n 0 - 1) 2)))) (f_by1 : fs0[57]? = some (.long (jN (bxk (cc 0) (n 0 - 1) 3)))) (hm9 : hb (b + 220) = some (.inr (11, fs0))) (E0 : List (List Int64)) (T : mT_ gu G hb b fs0 E0) (hk : ∀ (h : sv_h) (fs : List Value), h (b + 220) = some (.inr (11, fs)) → fs.length = 71 → fsE [28, 29, 52, 53] fs0 fs → (∀ a, a ≠ b + 220 → a ≠ b + 241 → h a = hb a) → mT_ gu G h b fs (E0 ++ aQ1 (mvW mp ((O.getD o ([], 0)).1.take d)) kd x3 x4 x6 (mc : Int) n pg cc (arM (crR (fun k => (X (pg 0) k, Y (pg 0) k)) (sz (pg 0))) (sz (pg 0)))) → V G mX13_alone (sv_MQ G mX13_alone Qr) 184 [(2, .int (nI kd)), (1, .int (nI (pg 0))), (0, .ref (b + 220))] [] h z 0 0) : V G mX13_alone (sv_MQ G mX13_alone Qr) 22 [(2, .int (nI kd)), (1, .int (nI (pg 0))), (0, .ref (b + 220))] [] hb z 0 0 := by
  have hl := hq0.1
  have hE : fsE [28, 29, 52, 53] fs0 fs0 := fsE.rf
  have fr : ∀ a, a ≠ b + 220 → a ≠ b + 241 → hb a = hb a := fun _ _ _ => rfl
  obtain ⟨k0, k1⟩ := id LK
  obtain ⟨r0, r1, ⟨j33, r33, r33a⟩, _, _, ⟨j36, r36, r36a⟩, _, _, _⟩ := id RU
  obtain ⟨fsd, fo, ft, ff, gx, gy, gp, gl, gh, d49, d50, d51, d52, d53, d54, d55, d56, d57, dd⟩ := id LD
  obtain ⟨⟨zv1, zv2⟩, pv, cv⟩ := k1 0 (by decide)
  obtain ⟨sv1, sv2, sv3, sv4, sv5⟩ := dd 0 (by decide)
  have hqf := hq0.to (S := [28, 29, 52, 53]) hl hE (by decide)
  have hlen : fs0.length = 71 := hl
  have f_sides := hqf.f_sides
  have f_face := hqf.f_face
  have f_pos := hqf.f_pos
  have f_low := hqf.f_low
  have f_high := hqf.f_high
  have f_ofPolygon := hqf.f_ofPolygon
  have f_bound := hqf.f_bound
  have f_kind := hqf.f_kind
  have f_rule : fs0[58]? = some (.int (nI ri)) := (hE 58 (by decide)).trans h58
  have w249 : ab_I G hb (b + 249) 2 fsd := (fr _ (by omega) (by omega)).trans d49
  have w253 : ab_I G hb (b + 253) 32 ff := (fr _ (by omega) (by omega)).trans d53
  have w254 : ab_J G hb (b + 254) 32 gp := (fr _ (by omega) (by omega)).trans d54
  have w255 : ab_J G hb (b + 255) 32 gl := (fr _ (by omega) (by omega)).trans d55
  have w256 : ab_J G hb (b + 256) 32 gh := (fr _ (by omega) (by omega)).trans d56
  have w257 : ab_I G hb (b + 257) 2 fo := (fr _ (by omega) (by omega)).trans d57
  have w236 : ab_J G hb (b + 236) 40 j36 := (fr _ (by omega) (by omega)).trans r36
  have w233 : ab_I G hb (b + 233) 40 j33 := (fr _ (by omega) (by omega)).trans r33
  have X3a := x3.le_toInt
  have X3b := x3.toInt_lt
  have zs := (MY.2.2.2.2.2.2.2.2.2.2.2.2.2.2.1 _ hp).1
  have tb := twS_b (C := (crR (fun k => (X (pg 0) k, Y (pg 0) k)) (sz (pg 0)))) (n := sz (pg 0)) (fun i hi => (by
    unfold crR
    split
    · exact hpb 0 hp0
    · exact hpb i (by omega))) (sz (pg 0)) (Nat.le_refl _)
  have hAb : 0 ≤ (arM (crR (fun k => (X (pg 0) k, Y (pg 0) k)) (sz (pg 0))) (sz (pg 0))) ∧ (arM (crR (fun k => (X (pg 0) k, Y (pg 0) k)) (sz (pg 0))) (sz (pg 0))) ≤ 1000000000000 := (by unfold arM; split <;> omega)
  have b0 := bxk_b (C := cc 0) (n := n 0) (fun i hi => cv i (by omega)) (show n 0 - 1 < n 0 by omega) 0
  have b1 := bxk_b (C := cc 0) (n := n 0) (fun i hi => cv i (by omega)) (show n 0 - 1 < n 0 by omega) 1
  have b2 := bxk_b (C := cc 0) (n := n 0) (fun i hi => cv i (by omega)) (show n 0 - 1 < n 0 by omega) 2
  have b3 := bxk_b (C := cc 0) (n := n 0) (fun i hi => cv i (by omega)) (show n 0 - 1 < n 0 by omega) 3
  refine v_iload_n dX13_alone_22 rfl 0 rfl ?_
  refine v_if_ne (tgt := 49) dX13_alone_23 (by decide) (fun c_23 => ?_) (fun c_23 => ?_)
  · refine v_iload_n dX13_alone_49 rfl 0 rfl ?_
    refine v_iconst (v := 1) dX13_alone_50 (by decide) ?_
    refine v_icmp_ne (tgt := 77) dX13_alone_51 (by decide) (fun c_51 => ?_) (fun c_51 => ?_)
    · refine v_iload_n dX13_alone_77 rfl 0 rfl ?_
      refine v_iconst (v := 2) dX13_alone_78 (by decide) ?_
      refine v_icmp_ne (tgt := 130) dX13_alone_79 (by decide) (fun c_79 => ?_) (fun c_79 => ?_)
      · refine v_iload_n dX13_alone_130 rfl 0 rfl ?_
        refine v_iconst (v := 4) dX13_alone_131 (by decide) ?_
        refine v_icmp_ne (tgt := 184) dX13_alone_132 (by decide) (fun c_132 => ?_) (fun c_132 => ?_)
        · refine v_sub (L' := [(2, _), (1, _), (0, _)]) [0, 1, 2] rfl ?_
          first
            | exact absurd ((show nI kd = 2 from c_79).symm.trans (show nI kd = 4 from c_132)) (by decide)
            | (refine hk h2 fs2 v1 v2 v3 v4 ?_
               first
                 | (rw [show aQ1 (mvW mp ((O.getD o ([], 0)).1.take d)) kd x3 x4 x6 (mc : Int) n pg cc (arM (crR (fun k => (X (pg 0) k, Y (pg 0) k)) (sz (pg 0))) (sz (pg 0))) = _ from if_pos (nI_11 kd r1 0 (by decide) c_23), ← List.append_assoc]; exact T2)
                 | (rw [show aQ1 (mvW mp ((O.getD o ([], 0)).1.take d)) kd x3 x4 x6 (mc : Int) n pg cc (arM (crR (fun k => (X (pg 0) k, Y (pg 0) k)) (sz (pg 0))) (sz (pg 0))) = _ from (if_neg (fun e9 => c_23 (congrArg nI e9))).trans (if_pos (nI_11 kd r1 1 (by decide) c_51)), ← List.append_assoc]; exact T2))
            | (have g9 := (jN_lt (by omega) (by omega) (by omega) (by omega)).mp (Int64.not_le.mp c_97)
               refine hk h1 fs1 u1 u2 u3 u4 ?_
               rw [show aQ1 (mvW mp ((O.getD o ([], 0)).1.take d)) kd x3 x4 x6 (mc : Int) n pg cc (arM (crR (fun k => (X (pg 0) k, Y (pg 0) k)) (sz (pg 0))) (sz (pg 0))) = aQm (mvW mp ((O.getD o ([], 0)).1.take d)) x3 (mc : Int) n pg cc (arM (crR (fun k => (X (pg 0) k, Y (pg 0) k)) (sz (pg 0))) (sz (pg 0))) from (if_neg (fun e9 => c_23 (congrArg nI e9))).trans ((if_neg (fun e9 => c_51 (congrArg nI e9))).trans (if_pos (nI_11 kd r1 2 (by decide) c_79))), show aQm (mvW mp ((O.getD o ([], 0)).1.take d)) x3 (mc : Int) n pg cc (arM (crR (fun k => (X (pg 0) k, Y (pg 0) k)) (sz (pg 0))) (sz (pg 0))) = [_] from if_pos g9]
               exact T1)
            | (have g9 := (jN_lt (by omega) (by omega) (by omega) (by omega)).mp (Int64.not_le.mp c_152)
               refine hk h1 fs1 u1 u2 u3 u4 ?_
               have h4 := nI_11 kd r1 4 (by decide) c_132
               rw [show aQ1 (mvW mp ((O.getD o ([], 0)).1.take d)) kd x3 x4 x6 (mc : Int) n pg cc (arM (crR (fun k => (X (pg 0) k, Y (pg 0) k)) (sz (pg 0))) (sz (pg 0))) = aQm (mvW mp ((O.getD o ([], 0)).1.take d)) x3 (mc : Int) n pg cc (n 0 : Int) from (if_neg (by omega)).trans ((if_neg (by omega)).trans ((if_neg (by omega)).trans (if_pos h4))), show aQm (mvW mp ((O.getD o ([], 0)).1.take d)) x3 (mc : Int) n pg cc (n 0 : Int) = [_] from if_pos g9]
               exact T1)
            | (refine hk hb fs0 hm9 hq0.1 fsE.rf (fun _ _ _ => rfl) ?_
               rw [show aQ1 (mvW mp ((O.getD o ([], 0)).1.take d)) kd x3 x4 x6 (mc : Int) n pg cc (arM (crR (fun k => (X (pg 0) k, Y (pg 0) k)) (sz (pg 0))) (sz (pg 0))) = [] from ?_, List.append_nil]
               · exact T
               · first
                   | (have g9 := (jN_le (by omega) (by omega) (by omega) (by omega)).mp c_97
                      rw [show aQ1 (mvW mp ((O.getD o ([], 0)).1.take d)) kd x3 x4 x6 (mc : Int) n pg cc (arM (crR (fun k => (X (pg 0) k, Y (pg 0) k)) (sz (pg 0))) (sz (pg 0))) = aQm (mvW mp ((O.getD o ([], 0)).1.take d)) x3 (mc : Int) n pg cc (arM (crR (fun k => (X (pg 0) k, Y (pg 0) k)) (sz (pg 0))) (sz (pg 0))) from (if_neg (fun e9 => c_23 (congrArg nI e9))).trans ((if_neg (fun e9 => c_51 (congrArg nI e9))).trans (if_pos (nI_11 kd r1 2 (by decide) c_79)))]
                      exact if_neg (Int.not_lt.mpr g9))
                   | (have g9 := (jN_le (by omega) (by omega) (by omega) (by omega)).mp c_152
                      have h4 := nI_11 kd r1 4 (by decide) c_132
                      rw [show aQ1 (mvW mp ((O.getD o ([], 0)).1.take d)) kd x3 x4 x6 (mc : Int) n pg cc (arM (crR (fun k => (X (pg 0) k, Y (pg 0) k)) (sz (pg 0))) (sz (pg 0))) = aQm (mvW mp ((O.getD o ([], 0)).1.take d)) x3 (mc : Int) n pg cc (n 0 : Int) from (if_neg (by omega)).trans ((if_neg (by omega)).trans ((if_neg (by omega)).trans (if_pos h4)))]
                      exact if_neg (Int.not_lt.mpr g9))
                   | exact (if_neg (fun e9 => c_23 (congrArg nI e9))).trans ((if_neg (fun e9 => c_51 (congrArg nI e9))).trans ((if_neg (fun e9 => c_79 (congrArg nI e9))).trans (if_neg (fun e9 => c_132 (congrArg nI e9))))))
        · refine v_aload_n dX13_alone_135 rfl 2 rfl ?_
          refine v_getf 43 (ci := 11) (C := RX13) (T := TX13) (N := 71) rfl iwX13_alone_X13 (Nat.le_of_ble_eq_true rfl) (by decide +kernel) dX13_alone_136 (by first | with_reducible assumption) (by repeat (first | with_reducible assumption | (with_reducible refine (sv_ls (by first | omega | (simp only [List.length_set]; omega))).trans ?_; exact rfl) | with_reducible refine (List.getElem?_set_ne (by decide)).trans ?_)) ?_
          refine v_iconst (v := 0) dX13_alone_139 (by decide) ?_
          refine v_ialdS (v := nI (n 0)) dX13_alone_140 (by first | with_reducible assumption) (vp_in_nI (n := 0) (by omega) (by omega)) (by exact sv1) ?_
          refine v_i2l dX13_alone_141 rfl ?_
          rw [show (nI (n 0)).toInt64 = jN (n 0 : Int) from iN_64 (x := (n 0 : Int)) (by omega) (by omega)]
          refine v_aload_n dX13_alone_142 rfl 2 rfl ?_
          refine v_getf 22 (ci := 11) (C := RX13) (T := TX13) (N := 71) rfl iwX13_alone_X13 (Nat.le_of_ble_eq_true rfl) (by decide +kernel) dX13_alone_143 (by first | with_reducible assumption) (by repeat (first | with_reducible assumption | (with_reducible refine (sv_ls (by first | omega | (simp only [List.length_set]; omega))).trans ?_; exact rfl) | with_reducible refine (List.getElem?_set_ne (by decide)).trans ?_)) ?_
          refine v_aload_n dX13_alone_146 rfl 2 rfl ?_
          refine v_getf 58 (ci := 11) (C := RX13) (T := TX13) (N := 71) rfl iwX13_alone_X13 (Nat.le_of_ble_eq_true rfl) (by decide +kernel) dX13_alone_147 (by first | with_reducible assumption) (by repeat (first | with_reducible assumption | (with_reducible refine (sv_ls (by first | omega | (simp only [List.length_set]; omega))).trans ?_; exact rfl) | with_reducible refine (List.getElem?_set_ne (by decide)).trans ?_)) ?_
          refine v_laldS (v := jN x3.toInt) dX13_alone_150 (by first | with_reducible assumption) (vp_in_nI (by omega) (by omega)) (by rw [nI_clamp (by omega)]; exact r36a) ?_
          refine v_lcmp_ge (tgt := 184) dX13_alone_151 dX13_alone_152 (by decide) (fun c_152 => ?_) (fun c_152 => ?_)
          · refine v_sub (L' := [(2, _), (1, _), (0, _)]) [0, 1, 2] rfl ?_
            first
              | exact absurd ((show nI kd = 2 from c_79).symm.trans (show nI kd = 4 from c_132)) (by decide)
              | (refine hk h2 fs2 v1 v2 v3 v4 ?_
                 first
                   | (rw [show aQ1 (mvW mp ((O.getD o ([], 0)).1.take d)) kd x3 x4 x6 (mc : Int) n pg cc (arM (crR (fun k => (X (pg 0) k, Y (pg 0) k)) (sz (pg 0))) (sz (pg 0))) = _ from if_pos (nI_11 kd r1 0 (by decide) c_23), ← List.append_assoc]; exact T2)
                   | (rw [show aQ1 (mvW mp ((O.getD o ([], 0)).1.take d)) kd x3 x4 x6 (mc : Int) n pg cc (arM (crR (fun k => (X (pg 0) k, Y (pg 0) k)) (sz (pg 0))) (sz (pg 0))) = _ from (if_neg (fun e9 => c_23 (congrArg nI e9))).trans (if_pos (nI_11 kd r1 1 (by decide) c_51)), ← List.append_assoc]; exact T2))
              | (have g9 := (jN_lt (by omega) (by omega) (by omega) (by omega)).mp (Int64.not_le.mp c_97)
                 refine hk h1 fs1 u1 u2 u3 u4 ?_
                 rw [show aQ1 (mvW mp ((O.getD o ([], 0)).1.take d)) kd x3 x4 x6 (mc : Int) n pg cc (arM (crR (fun k => (X (pg 0) k, Y (pg 0) k)) (sz (pg 0))) (sz (pg 0))) = aQm (mvW mp ((O.getD o ([], 0)).1.take d)) x3 (mc : Int) n pg cc (arM (crR (fun k => (X (pg 0) k, Y (pg 0) k)) (sz (pg 0))) (sz (pg 0))) from (if_neg (fun e9 => c_23 (congrArg nI e9))).trans ((if_neg (fun e9 => c_51 (congrArg nI e9))).trans (if_pos (nI_11 kd r1 2 (by decide) c_79))), show aQm (mvW mp ((O.getD o ([], 0)).1.take d)) x3 (mc : Int) n pg cc (arM (crR (fun k => (X (pg 0) k, Y (pg 0) k)) (sz (pg 0))) (sz (pg 0))) = [_] from if_pos g9]
                 exact T1)
              | (have g9 := (jN_lt (by omega) (by omega) (by omega) (by omega)).mp (Int64.not_le.mp c_152)
                 refine hk h1 fs1 u1 u2 u3 u4 ?_
                 have h4 := nI_11 kd r1 4 (by decide) c_132
                 rw [show aQ1 (mvW mp ((O.getD o ([], 0)).1.take d)) kd x3 x4 x6 (mc : Int) n pg cc (arM (crR (fun k => (X (pg 0) k, Y (pg 0) k)) (sz (pg 0))) (sz (pg 0))) = aQm (mvW mp ((O.getD o ([], 0)).1.take d)) x3 (mc : Int) n pg cc (n 0 : Int) from (if_neg (by omega)).trans ((if_neg (by omega)).trans ((if_neg (by omega)).trans (if_pos h4))), show aQm (mvW mp ((O.getD o ([], 0)).1.take d)) x3 (mc : Int) n pg cc (n 0 : Int) = [_] from if_pos g9]
                 exact T1)
              | (refine hk hb fs0 hm9 hq0.1 fsE.rf (fun _ _ _ => rfl) ?_
                 rw [show aQ1 (mvW mp ((O.getD o ([], 0)).1.take d)) kd x3 x4 x6 (mc : Int) n pg cc (arM (crR (fun k => (X (pg 0) k, Y (pg 0) k)) (sz (pg 0))) (sz (pg 0))) = [] from ?_, List.append_nil]
                 · exact T
                 · first
                     | (have g9 := (jN_le (by omega) (by omega) (by omega) (by omega)).mp c_97
                        rw [show aQ1 (mvW mp ((O.getD o ([], 0)).1.take d)) kd x3 x4 x6 (mc : Int) n pg cc (arM (crR (fun k => (X (pg 0) k, Y (pg 0) k)) (sz (pg 0))) (sz (pg 0))) = aQm (mvW mp ((O.getD o ([], 0)).1.take d)) x3 (mc : Int) n pg cc (arM (crR (fun k => (X (pg 0) k, Y (pg 0) k)) (sz (pg 0))) (sz (pg 0))) from (if_neg (fun e9 => c_23 (congrArg nI e9))).trans ((if_neg (fun e9 => c_51 (congrArg nI e9))).trans (if_pos (nI_11 kd r1 2 (by decide) c_79)))]
                        exact if_neg (Int.not_lt.mpr g9))
                     | (have g9 := (jN_le (by omega) (by omega) (by omega) (by omega)).mp c_152
                        have h4 := nI_11 kd r1 4 (by decide) c_132
                        rw [show aQ1 (mvW mp ((O.getD o ([], 0)).1.take d)) kd x3 x4 x6 (mc : Int) n pg cc (arM (crR (fun k => (X (pg 0) k, Y (pg 0) k)) (sz (pg 0))) (sz (pg 0))) = aQm (mvW mp ((O.getD o ([], 0)).1.take d)) x3 (mc : Int) n pg cc (n 0 : Int) from (if_neg (by omega)).trans ((if_neg (by omega)).trans ((if_neg (by omega)).trans (if_pos h4)))]
                        exact if_neg (Int.not_lt.mpr g9))
                     | exact (if_neg (fun e9 => c_23 (congrArg nI e9))).trans ((if_neg (fun e9 => c_51 (congrArg nI e9))).trans ((if_neg (fun e9 => c_79 (congrArg nI e9))).trans (if_neg (fun e9 => c_132 (congrArg nI e9))))))
          · refine v_aload_n dX13_alone_155 rfl 2 rfl ?_
            refine v_aload_n dX13_alone_156 rfl 2 rfl ?_
            refine v_getf 54 (ci := 11) (C := RX13) (T := TX13) (N := 71) rfl iwX13_alone_X13 (Nat.le_of_ble_eq_true rfl) (by decide +kernel) dX13_alone_157 (by first | with_reducible assumption) (by repeat (first | with_reducible assumption | (with_reducible refine (sv_ls (by first | omega | (simp only [List.length_set]; omega))).trans ?_; exact rfl) | with_reducible refine (List.getElem?_set_ne (by decide)).trans ?_)) ?_
            refine v_aload_n dX13_alone_160 rfl 2 rfl ?_
            refine v_getf 55 (ci := 11) (C := RX13) (T := TX13) (N := 71) rfl iwX13_alone_X13 (Nat.le_of_ble_eq_true rfl) (by decide +kernel) dX13_alone_161 (by first | with_reducible assumption) (by repeat (first | with_reducible assumption | (with_reducible refine (sv_ls (by first | omega | (simp only [List.length_set]; omega))).trans ?_; exact rfl) | with_reducible refine (List.getElem?_set_ne (by decide)).trans ?_)) ?_
            refine v_aload_n dX13_alone_164 rfl 2 rfl ?_
            refine v_getf 56 (ci := 11) (C := RX13) (T := TX13) (N := 71) rfl iwX13_alone_X13 (Nat.le_of_ble_eq_true rfl) (by decide +kernel) dX13_alone_165 (by first | with_reducible assumption) (by repeat (first | with_reducible assumption | (with_reducible refine (sv_ls (by first | omega | (simp only [List.length_set]; omega))).trans ?_; exact rfl) | with_reducible refine (List.getElem?_set_ne (by decide)).trans ?_)) ?_
            refine v_aload_n dX13_alone_168 rfl 2 rfl ?_
            refine v_getf 57 (ci := 11) (C := RX13) (T := TX13) (N := 71) rfl iwX13_alone_X13 (Nat.le_of_ble_eq_true rfl) (by decide +kernel) dX13_alone_169 (by first | with_reducible assumption) (by repeat (first | with_reducible assumption | (with_reducible refine (sv_ls (by first | omega | (simp only [List.length_set]; omega))).trans ?_; exact rfl) | with_reducible refine (List.getElem?_set_ne (by decide)).trans ?_)) ?_
            refine v_iload_n dX13_alone_172 rfl 1 rfl ?_
            refine v_iconst (v := (-1)) dX13_alone_173 (by decide) ?_
            refine v_aload_n dX13_alone_174 rfl 2 rfl ?_
            refine v_getf 43 (ci := 11) (C := RX13) (T := TX13) (N := 71) rfl iwX13_alone_X13 (Nat.le_of_ble_eq_true rfl) (by decide +kernel) dX13_alone_175 (by first | with_reducible assumption) (by repeat (first | with_reducible assumption | (with_reducible refine (sv_ls (by first | omega | (simp only [List.length_set]; omega))).trans ?_; exact rfl) | with_reducible refine (List.getElem?_set_ne (by decide)).trans ?_)) ?_
            refine v_iconst (v := 0) dX13_alone_178 (by decide) ?_
            refine v_ialdS (v := nI (n 0)) dX13_alone_179 (by first | with_reducible assumption) (vp_in_nI (n := 0) (by omega) (by omega)) (by exact sv1) ?_
            refine v_i2l dX13_alone_180 rfl ?_
            refine v_callVq (M' := mX13_tell) (n := 7) (As := [_, _, _, _, _, _, _]) (ci := 11) (r := (RX13, TX13, 71)) gX13_alone_X13_tell rfl (by decide +kernel) ⟨(Nat.le_of_ble_eq_true rfl), (Nat.le_of_ble_eq_true rfl)⟩ rfl rfl dX13_alone_181 rfl ⟨(Nat.le_of_ble_eq_true rfl), (Nat.le_of_ble_eq_true rfl)⟩ (Nat.le_of_ble_eq_true rfl) (by first | with_reducible assumption) rfl (m_tellM G _ b nc np pl R hm p3 p4 sz ly vo mp X Y hb fs0 hq0 MY O MO o ho how d hd h60 h61 mc hmc h62 hMB hb fs0 hm9 hq0.1 fsE.rf (fun _ _ _ => rfl) _ T (bxk (cc 0) (n 0 - 1) 0) (bxk (cc 0) (n 0 - 1) 1) (bxk (cc 0) (n 0 - 1) 2) (bxk (cc 0) (n 0 - 1) 3) (pg 0 : Int) (-1) (n 0 : Int) (by omega) (by omega) b0 b1 b2 b3 (nI (n 0)).toInt64 (show (nI (n 0)).toInt64 = jN (n 0 : Int) from iN_64 (x := (n 0 : Int)) (by omega) (by omega)) (nI (pg 0)) (-1) rfl rfl) (fun v9 h1 z1 hq9 => ?_)
            obtain ⟨rfl, rfl, fs1, u1, u2, u3, u4, T1⟩ := hq9
            refine v_sub (L' := [(2, _), (1, _), (0, _)]) [0, 1, 2] rfl ?_
            first
              | exact absurd ((show nI kd = 2 from c_79).symm.trans (show nI kd = 4 from c_132)) (by decide)
              | (refine hk h2 fs2 v1 v2 v3 v4 ?_
                 first
                   | (rw [show aQ1 (mvW mp ((O.getD o ([], 0)).1.take d)) kd x3 x4 x6 (mc : Int) n pg cc (arM (crR (fun k => (X (pg 0) k, Y (pg 0) k)) (sz (pg 0))) (sz (pg 0))) = _ from if_pos (nI_11 kd r1 0 (by decide) c_23), ← List.append_assoc]; exact T2)
                   | (rw [show aQ1 (mvW mp ((O.getD o ([], 0)).1.take d)) kd x3 x4 x6 (mc : Int) n pg cc (arM (crR (fun k => (X (pg 0) k, Y (pg 0) k)) (sz (pg 0))) (sz (pg 0))) = _ from (if_neg (fun e9 => c_23 (congrArg nI e9))).trans (if_pos (nI_11 kd r1 1 (by decide) c_51)), ← List.append_assoc]; exact T2))
              | (have g9 := (jN_lt (by omega) (by omega) (by omega) (by omega)).mp (Int64.not_le.mp c_97)
                 refine hk h1 fs1 u1 u2 u3 u4 ?_
                 rw [show aQ1 (mvW mp ((O.getD o ([], 0)).1.take d)) kd x3 x4 x6 (mc : Int) n pg cc (arM (crR (fun k => (X (pg 0) k, Y (pg 0) k)) (sz (pg 0))) (sz (pg 0))) = aQm (mvW mp ((O.getD o ([], 0)).1.take d)) x3 (mc : Int) n pg cc (arM (crR (fun k => (X (pg 0) k, Y (pg 0) k)) (sz (pg 0))) (sz (pg 0))) from (if_neg (fun e9 => c_23 (congrArg nI e9))).trans ((if_neg (fun e9 => c_51 (congrArg nI e9))).trans (if_pos (nI_11 kd r1 2 (by decide) c_79))), show aQm (mvW mp ((O.getD o ([], 0)).1.take d)) x3 (mc : Int) n pg cc (arM (crR (fun k => (X (pg 0) k, Y (pg 0) k)) (sz (pg 0))) (sz (pg 0))) = [_] from if_pos g9]
                 exact T1)
              | (have g9 := (jN_lt (by omega) (by omega) (by omega) (by omega)).mp (Int64.not_le.mp c_152)
                 refine hk h1 fs1 u1 u2 u3 u4 ?_
                 have h4 := nI_11 kd r1 4 (by decide) c_132
                 rw [show aQ1 (mvW mp ((O.getD o ([], 0)).1.take d)) kd x3 x4 x6 (mc : Int) n pg cc (arM (crR (fun k => (X (pg 0) k, Y (pg 0) k)) (sz (pg 0))) (sz (pg 0))) = aQm (mvW mp ((O.getD o ([], 0)).1.take d)) x3 (mc : Int) n pg cc (n 0 : Int) from (if_neg (by omega)).trans ((if_neg (by omega)).trans ((if_neg (by omega)).trans (if_pos h4))), show aQm (mvW mp ((O.getD o ([], 0)).1.take d)) x3 (mc : Int) n pg cc (n 0 : Int) = [_] from if_pos g9]
                 exact T1)
              | (refine hk hb fs0 hm9 hq0.1 fsE.rf (fun _ _ _ => rfl) ?_
                 rw [show aQ1 (mvW mp ((O.getD o ([], 0)).1.take d)) kd x3 x4 x6 (mc : Int) n pg cc (arM (crR (fun k => (X (pg 0) k, Y (pg 0) k)) (sz (pg 0))) (sz (pg 0))) = [] from ?_, List.append_nil]
                 · exact T
                 · first
                     | (have g9 := (jN_le (by omega) (by omega) (by omega) (by omega)).mp c_97
                        rw [show aQ1 (mvW mp ((O.getD o ([], 0)).1.take d)) kd x3 x4 x6 (mc : Int) n pg cc (arM (crR (fun k => (X (pg 0) k, Y (pg 0) k)) (sz (pg 0))) (sz (pg 0))) = aQm (mvW mp ((O.getD o ([], 0)).1.take d)) x3 (mc : Int) n pg cc (arM (crR (fun k => (X (pg 0) k, Y (pg 0) k)) (sz (pg 0))) (sz (pg 0))) from (if_neg (fun e9 => c_23 (congrArg nI e9))).trans ((if_neg (fun e9 => c_51 (congrArg nI e9))).trans (if_pos (nI_11 kd r1 2 (by decide) c_79)))]
                        exact if_neg (Int.not_lt.mpr g9))
                     | (have g9 := (jN_le (by omega) (by omega) (by omega) (by omega)).mp c_152
                        have h4 := nI_11 kd r1 4 (by decide) c_132
                        rw [show aQ1 (mvW mp ((O.getD o ([], 0)).1.take d)) kd x3 x4 x6 (mc : Int) n pg cc (arM (crR (fun k => (X (pg 0) k, Y (pg 0) k)) (sz (pg 0))) (sz (pg 0))) = aQm (mvW mp ((O.getD o ([], 0)).1.take d)) x3 (mc : Int) n pg cc (n 0 : Int) from (if_neg (by omega)).trans ((if_neg (by omega)).trans ((if_neg (by omega)).trans (if_pos h4)))]
                        exact if_neg (Int.not_lt.mpr g9))
                     | exact (if_neg (fun e9 => c_23 (congrArg nI e9))).trans ((if_neg (fun e9 => c_51 (congrArg nI e9))).trans ((if_neg (fun e9 => c_79 (congrArg nI e9))).trans (if_neg (fun e9 => c_132 (congrArg nI e9))))))
      · refine v_aload_n dX13_alone_82 rfl 2 rfl ?_
        refine v_iload_n dX13_alone_83 rfl 1 rfl ?_
        refine v_callVq (M' := mX13_areaOf) (n := 1) (As := [_]) (ci := 11) (r := (RX13, TX13, 71)) gX13_alone_X13_areaOf rfl (by decide +kernel) ⟨(Nat.le_of_ble_eq_true rfl), (Nat.le_of_ble_eq_true rfl)⟩ rfl rfl dX13_alone_84 rfl ⟨(Nat.le_of_ble_eq_true rfl), (Nat.le_of_ble_eq_true rfl)⟩ (Nat.le_of_ble_eq_true rfl) (by first | with_reducible assumption) rfl (m_areaOf G _ b nc np pl R hm p3 p4 sz ly vo mp X Y hb fs0 hq0 MY hb fs0 hm9 hq0.1 [] fsE.rf (by decide) (fun _ _ _ => rfl) (pg 0) hp hp0 hpb) (fun v9 h9 y9 hq => v_pq hq ?_)
        refine v_aload_n dX13_alone_87 rfl 2 rfl ?_
        refine v_getf 22 (ci := 11) (C := RX13) (T := TX13) (N := 71) rfl iwX13_alone_X13 (Nat.le_of_ble_eq_true rfl) (by decide +kernel) dX13_alone_88 (by first | with_reducible assumption) (by repeat (first | with_reducible assumption | (with_reducible refine (sv_ls (by first | omega | (simp only [List.length_set]; omega))).trans ?_; exact rfl) | with_reducible refine (List.getElem?_set_ne (by decide)).trans ?_)) ?_
        refine v_aload_n dX13_alone_91 rfl 2 rfl ?_
        refine v_getf 58 (ci := 11) (C := RX13) (T := TX13) (N := 71) rfl iwX13_alone_X13 (Nat.le_of_ble_eq_true rfl) (by decide +kernel) dX13_alone_92 (by first | with_reducible assumption) (by repeat (first | with_reducible assumption | (with_reducible refine (sv_ls (by first | omega | (simp only [List.length_set]; omega))).trans ?_; exact rfl) | with_reducible refine (List.getElem?_set_ne (by decide)).trans ?_)) ?_
        refine v_laldS (v := jN x3.toInt) dX13_alone_95 (by first | with_reducible assumption) (vp_in_nI (by omega) (by omega)) (by rw [nI_clamp (by omega)]; exact r36a) ?_
        refine v_lcmp_ge (tgt := 130) dX13_alone_96 dX13_alone_97 (by decide) (fun c_97 => ?_) (fun c_97 => ?_)
        · refine v_iload_n dX13_alone_130 rfl 0 rfl ?_
          refine v_iconst (v := 4) dX13_alone_131 (by decide) ?_
          refine v_icmp_ne (tgt := 184) dX13_alone_132 (by decide) (fun c_132 => ?_) (fun c_132 => ?_)
          · refine v_sub (L' := [(2, _), (1, _), (0, _)]) [0, 1, 2] rfl ?_
            first
              | exact absurd ((show nI kd = 2 from c_79).symm.trans (show nI kd = 4 from c_132)) (by decide)
              | (refine hk h2 fs2 v1 v2 v3 v4 ?_
                 first
                   | (rw [show aQ1 (mvW mp ((O.getD o ([], 0)).1.take d)) kd x3 x4 x6 (mc : Int) n pg cc (arM (crR (fun k => (X (pg 0) k, Y (pg 0) k)) (sz (pg 0))) (sz (pg 0))) = _ from if_pos (nI_11 kd r1 0 (by decide) c_23), ← List.append_assoc]; exact T2)
                   | (rw [show aQ1 (mvW mp ((O.getD o ([], 0)).1.take d)) kd x3 x4 x6 (mc : Int) n pg cc (arM (crR (fun k => (X (pg 0) k, Y (pg 0) k)) (sz (pg 0))) (sz (pg 0))) = _ from (if_neg (fun e9 => c_23 (congrArg nI e9))).trans (if_pos (nI_11 kd r1 1 (by decide) c_51)), ← List.append_assoc]; exact T2))
              | (have g9 := (jN_lt (by omega) (by omega) (by omega) (by omega)).mp (Int64.not_le.mp c_97)
                 refine hk h1 fs1 u1 u2 u3 u4 ?_
                 rw [show aQ1 (mvW mp ((O.getD o ([], 0)).1.take d)) kd x3 x4 x6 (mc : Int) n pg cc (arM (crR (fun k => (X (pg 0) k, Y (pg 0) k)) (sz (pg 0))) (sz (pg 0))) = aQm (mvW mp ((O.getD o ([], 0)).1.take d)) x3 (mc : Int) n pg cc (arM (crR (fun k => (X (pg 0) k, Y (pg 0) k)) (sz (pg 0))) (sz (pg 0))) from (if_neg (fun e9 => c_23 (congrArg nI e9))).trans ((if_neg (fun e9 => c_51 (congrArg nI e9))).trans (if_pos (nI_11 kd r1 2 (by decide) c_79))), show aQm (mvW mp ((O.getD o ([], 0)).1.take d)) x3 (mc : Int) n pg cc (arM (crR (fun k => (X (pg 0) k, Y (pg 0) k)) (sz (pg 0))) (sz (pg 0))) = [_] from if_pos g9]
                 exact T1)
              | (have g9 := (jN_lt (by omega) (by omega) (by omega) (by omega)).mp (Int64.not_le.mp c_152)
                 refine hk h1 fs1 u1 u2 u3 u4 ?_
                 have h4 := nI_11 kd r1 4 (by decide) c_132
                 rw [show aQ1 (mvW mp ((O.getD o ([], 0)).1.take d)) kd x3 x4 x6 (mc : Int) n pg cc (arM (crR (fun k => (X (pg 0) k, Y (pg 0) k)) (sz (pg 0))) (sz (pg 0))) = aQm (mvW mp ((O.getD o ([], 0)).1.take d)) x3 (mc : Int) n pg cc (n 0 : Int) from (if_neg (by omega)).trans ((if_neg (by omega)).trans ((if_neg (by omega)).trans (if_pos h4))), show aQm (mvW mp ((O.getD o ([], 0)).1.take d)) x3 (mc : Int) n pg cc (n 0 : Int) = [_] from if_pos g9]
                 exact T1)
              | (refine hk hb fs0 hm9 hq0.1 fsE.rf (fun _ _ _ => rfl) ?_
                 rw [show aQ1 (mvW mp ((O.getD o ([], 0)).1.take d)) kd x3 x4 x6 (mc : Int) n pg cc (arM (crR (fun k => (X (pg 0) k, Y (pg 0) k)) (sz (pg 0))) (sz (pg 0))) = [] from ?_, List.append_nil]
                 · exact T
                 · first
                     | (have g9 := (jN_le (by omega) (by omega) (by omega) (by omega)).mp c_97
                        rw [show aQ1 (mvW mp ((O.getD o ([], 0)).1.take d)) kd x3 x4 x6 (mc : Int) n pg cc (arM (crR (fun k => (X (pg 0) k, Y (pg 0) k)) (sz (pg 0))) (sz (pg 0))) = aQm (mvW mp ((O.getD o ([], 0)).1.take d)) x3 (mc : Int) n pg cc (arM (crR (fun k => (X (pg 0) k, Y (pg 0) k)) (sz (pg 0))) (sz (pg 0))) from (if_neg (fun e9 => c_23 (congrArg nI e9))).trans ((if_neg (fun e9 => c_51 (congrArg nI e9))).trans (if_pos (nI_11 kd r1 2 (by decide) c_79)))]
                        exact if_neg (Int.not_lt.mpr g9))
                     | (have g9 := (jN_le (by omega) (by omega) (by omega) (by omega)).mp c_152
                        have h4 := nI_11 kd r1 4 (by decide) c_132
                        rw [show aQ1 (mvW mp ((O.getD o ([], 0)).1.take d)) kd x3 x4 x6 (mc : Int) n pg cc (arM (crR (fun k => (X (pg 0) k, Y (pg 0) k)) (sz (pg 0))) (sz (pg 0))) = aQm (mvW mp ((O.getD o ([], 0)).1.take d)) x3 (mc : Int) n pg cc (n 0 : Int) from (if_neg (by omega)).trans ((if_neg (by omega)).trans ((if_neg (by omega)).trans (if_pos h4)))]
                        exact if_neg (Int.not_lt.mpr g9))
                     | exact (if_neg (fun e9 => c_23 (congrArg nI e9))).trans ((if_neg (fun e9 => c_51 (congrArg nI e9))).trans ((if_neg (fun e9 => c_79 (congrArg nI e9))).trans (if_neg (fun e9 => c_132 (congrArg nI e9))))))
          · refine v_aload_n dX13_alone_135 rfl 2 rfl ?_
            refine v_getf 43 (ci := 11) (C := RX13) (T := TX13) (N := 71) rfl iwX13_alone_X13 (Nat.le_of_ble_eq_true rfl) (by decide +kernel) dX13_alone_136 (by first | with_reducible assumption) (by repeat (first | with_reducible assumption | (with_reducible refine (sv_ls (by first | omega | (simp only [List.length_set]; omega))).trans ?_; exact rfl) | with_reducible refine (List.getElem?_set_ne (by decide)).trans ?_)) ?_
            refine v_iconst (v := 0) dX13_alone_139 (by decide) ?_
            refine v_ialdS (v := nI (n 0)) dX13_alone_140 (by first | with_reducible assumption) (vp_in_nI (n := 0) (by omega) (by omega)) (by exact sv1) ?_
            refine v_i2l dX13_alone_141 rfl ?_
            rw [show (nI (n 0)).toInt64 = jN (n 0 : Int) from iN_64 (x := (n 0 : Int)) (by omega) (by omega)]
            refine v_aload_n dX13_alone_142 rfl 2 rfl ?_
            refine v_getf 22 (ci := 11) (C := RX13) (T := TX13) (N := 71) rfl iwX13_alone_X13 (Nat.le_of_ble_eq_true rfl) (by decide +kernel) dX13_alone_143 (by first | with_reducible assumption) (by repeat (first | with_reducible assumption | (with_reducible refine (sv_ls (by first | omega | (simp only [List.length_set]; omega))).trans ?_; exact rfl) | with_reducible refine (List.getElem?_set_ne (by decide)).trans ?_)) ?_
            refine v_aload_n dX13_alone_146 rfl 2 rfl ?_
            refine v_getf 58 (ci := 11) (C := RX13) (T := TX13) (N := 71) rfl iwX13_alone_X13 (Nat.le_of_ble_eq_true rfl) (by decide +kernel) dX13_alone_147 (by first | with_reducible assumption) (by repeat (first | with_reducible assumption | (with_reducible refine (sv_ls (by first | omega | (simp only [List.length_set]; omega))).trans ?_; exact rfl) | with_reducible refine (List.getElem?_set_ne (by decide)).trans ?_)) ?_
            refine v_laldS (v := jN x3.toInt) dX13_alone_150 (by first | with_reducible assumption) (vp_in_nI (by omega) (by omega)) (by rw [nI_clamp (by omega)]; exact r36a) ?_
            refine v_lcmp_ge (tgt := 184) dX13_alone_151 dX13_alone_152 (by decide) (fun c_152 => ?_) (fun c_152 => ?_)
            · refine v_sub (L' := [(2, _), (1, _), (0, _)]) [0, 1, 2] rfl ?_
              first
                | exact absurd ((show nI kd = 2 from c_79).symm.trans (show nI kd = 4 from c_132)) (by decide)
                | (refine hk h2 fs2 v1 v2 v3 v4 ?_
                   first
                     | (rw [show aQ1 (mvW mp ((O.getD o ([], 0)).1.take d)) kd x3 x4 x6 (mc : Int) n pg cc (arM (crR (fun k => (X (pg 0) k, Y (pg 0) k)) (sz (pg 0))) (sz (pg 0))) = _ from if_pos (nI_11 kd r1 0 (by decide) c_23), ← List.append_assoc]; exact T2)
                     | (rw [show aQ1 (mvW mp ((O.getD o ([], 0)).1.take d)) kd x3 x4 x6 (mc : Int) n pg cc (arM (crR (fun k => (X (pg 0) k, Y (pg 0) k)) (sz (pg 0))) (sz (pg 0))) = _ from (if_neg (fun e9 => c_23 (congrArg nI e9))).trans (if_pos (nI_11 kd r1 1 (by decide) c_51)), ← List.append_assoc]; exact T2))
                | (have g9 := (jN_lt (by omega) (by omega) (by omega) (by omega)).mp (Int64.not_le.mp c_97)
                   refine hk h1 fs1 u1 u2 u3 u4 ?_
                   rw [show aQ1 (mvW mp ((O.getD o ([], 0)).1.take d)) kd x3 x4 x6 (mc : Int) n pg cc (arM (crR (fun k => (X (pg 0) k, Y (pg 0) k)) (sz (pg 0))) (sz (pg 0))) = aQm (mvW mp ((O.getD o ([], 0)).1.take d)) x3 (mc : Int) n pg cc (arM (crR (fun k => (X (pg 0) k, Y (pg 0) k)) (sz (pg 0))) (sz (pg 0))) from (if_neg (fun e9 => c_23 (congrArg nI e9))).trans ((if_neg (fun e9 => c_51 (congrArg nI e9))).trans (if_pos (nI_11 kd r1 2 (by decide) c_79))), show aQm (mvW mp ((O.getD o ([], 0)).1.take d)) x3 (mc : Int) n pg cc (arM (crR (fun k => (X (pg 0) k, Y (pg 0) k)) (sz (pg 0))) (sz (pg 0))) = [_] from if_pos g9]
                   exact T1)
                | (have g9 := (jN_lt (by omega) (by omega) (by omega) (by omega)).mp (Int64.not_le.mp c_152)
                   refine hk h1 fs1 u1 u2 u3 u4 ?_
                   have h4 := nI_11 kd r1 4 (by decide) c_132
                   rw [show aQ1 (mvW mp ((O.getD o ([], 0)).1.take d)) kd x3 x4 x6 (mc : Int) n pg cc (arM (crR (fun k => (X (pg 0) k, Y (pg 0) k)) (sz (pg 0))) (sz (pg 0))) = aQm (mvW mp ((O.getD o ([], 0)).1.take d)) x3 (mc : Int) n pg cc (n 0 : Int) from (if_neg (by omega)).trans ((if_neg (by omega)).trans ((if_neg (by omega)).trans (if_pos h4))), show aQm (mvW mp ((O.getD o ([], 0)).1.take d)) x3 (mc : Int) n pg cc (n 0 : Int) = [_] from if_pos g9]
                   exact T1)
                | (refine hk hb fs0 hm9 hq0.1 fsE.rf (fun _ _ _ => rfl) ?_
                   rw [show aQ1 (mvW mp ((O.getD o ([], 0)).1.take d)) kd x3 x4 x6 (mc : Int) n pg cc (arM (crR (fun k => (X (pg 0) k, Y (pg 0) k)) (sz (pg 0))) (sz (pg 0))) = [] from ?_, List.append_nil]
                   · exact T
                   · first
                       | (have g9 := (jN_le (by omega) (by omega) (by omega) (by omega)).mp c_97
                          rw [show aQ1 (mvW mp ((O.getD o ([], 0)).1.take d)) kd x3 x4 x6 (mc : Int) n pg cc (arM (crR (fun k => (X (pg 0) k, Y (pg 0) k)) (sz (pg 0))) (sz (pg 0))) = aQm (mvW mp ((O.getD o ([], 0)).1.take d)) x3 (mc : Int) n pg cc (arM (crR (fun k => (X (pg 0) k, Y (pg 0) k)) (sz (pg 0))) (sz (pg 0))) from (if_neg (fun e9 => c_23 (congrArg nI e9))).trans ((if_neg (fun e9 => c_51 (congrArg nI e9))).trans (if_pos (nI_11 kd r1 2 (by decide) c_79)))]
                          exact if_neg (Int.not_lt.mpr g9))
                       | (have g9 := (jN_le (by omega) (by omega) (by omega) (by omega)).mp c_152
                          have h4 := nI_11 kd r1 4 (by decide) c_132
                          rw [show aQ1 (mvW mp ((O.getD o ([], 0)).1.take d)) kd x3 x4 x6 (mc : Int) n pg cc (arM (crR (fun k => (X (pg 0) k, Y (pg 0) k)) (sz (pg 0))) (sz (pg 0))) = aQm (mvW mp ((O.getD o ([], 0)).1.take d)) x3 (mc : Int) n pg cc (n 0 : Int) from (if_neg (by omega)).trans ((if_neg (by omega)).trans ((if_neg (by omega)).trans (if_pos h4)))]
                          exact if_neg (Int.not_lt.mpr g9))
                       | exact (if_neg (fun e9 => c_23 (congrArg nI e9))).trans ((if_neg (fun e9 => c_51 (congrArg nI e9))).trans ((if_neg (fun e9 => c_79 (congrArg nI e9))).trans (if_neg (fun e9 => c_132 (congrArg nI e9))))))
            · refine v_aload_n dX13_alone_155 rfl 2 rfl ?_
              refine v_aload_n dX13_alone_156 rfl 2 rfl ?_
              refine v_getf 54 (ci := 11) (C := RX13) (T := TX13) (N := 71) rfl iwX13_alone_X13 (Nat.le_of_ble_eq_true rfl) (by decide +kernel) dX13_alone_157 (by first | with_reducible assumption) (by repeat (first | with_reducible assumption | (with_reducible refine (sv_ls (by first | omega | (simp only [List.length_set]; omega))).trans ?_; exact rfl) | with_reducible refine (List.getElem?_set_ne (by decide)).trans ?_)) ?_
              refine v_aload_n dX13_alone_160 rfl 2 rfl ?_
              refine v_getf 55 (ci := 11) (C := RX13) (T := TX13) (N := 71) rfl iwX13_alone_X13 (Nat.le_of_ble_eq_true rfl) (by decide +kernel) dX13_alone_161 (by first | with_reducible assumption) (by repeat (first | with_reducible assumption | (with_reducible refine (sv_ls (by first | omega | (simp only [List.length_set]; omega))).trans ?_; exact rfl) | with_reducible refine (List.getElem?_set_ne (by decide)).trans ?_)) ?_
              refine v_aload_n dX13_alone_164 rfl 2 rfl ?_
              refine v_getf 56 (ci := 11) (C := RX13) (T := TX13) (N := 71) rfl iwX13_alone_X13 (Nat.le_of_ble_eq_true rfl) (by decide +kernel) dX13_alone_165 (by first | with_reducible assumption) (by repeat (first | with_reducible assumption | (with_reducible refine (sv_ls (by first | omega | (simp only [List.length_set]; omega))).trans ?_; exact rfl) | with_reducible refine (List.getElem?_set_ne (by decide)).trans ?_)) ?_
              refine v_aload_n dX13_alone_168 rfl 2 rfl ?_
              refine v_getf 57 (ci := 11) (C := RX13) (T := TX13) (N := 71) rfl iwX13_alone_X13 (Nat.le_of_ble_eq_true rfl) (by decide +kernel) dX13_alone_169 (by first | with_reducible assumption) (by repeat (first | with_reducible assumption | (with_reducible refine (sv_ls (by first | omega | (simp only [List.length_set]; omega))).trans ?_; exact rfl) | with_reducible refine (List.getElem?_set_ne (by decide)).trans ?_)) ?_
              refine v_iload_n dX13_alone_172 rfl 1 rfl ?_
              refine v_iconst (v := (-1)) dX13_alone_173 (by decide) ?_
              refine v_aload_n dX13_alone_174 rfl 2 rfl ?_
              refine v_getf 43 (ci := 11) (C := RX13) (T := TX13) (N := 71) rfl iwX13_alone_X13 (Nat.le_of_ble_eq_true rfl) (by decide +kernel) dX13_alone_175 (by first | with_reducible assumption) (by repeat (first | with_reducible assumption | (with_reducible refine (sv_ls (by first | omega | (simp only [List.length_set]; omega))).trans ?_; exact rfl) | with_reducible refine (List.getElem?_set_ne (by decide)).trans ?_)) ?_
              refine v_iconst (v := 0) dX13_alone_178 (by decide) ?_
              refine v_ialdS (v := nI (n 0)) dX13_alone_179 (by first | with_reducible assumption) (vp_in_nI (n := 0) (by omega) (by omega)) (by exact sv1) ?_
              refine v_i2l dX13_alone_180 rfl ?_
              refine v_callVq (M' := mX13_tell) (n := 7) (As := [_, _, _, _, _, _, _]) (ci := 11) (r := (RX13, TX13, 71)) gX13_alone_X13_tell rfl (by decide +kernel) ⟨(Nat.le_of_ble_eq_true rfl), (Nat.le_of_ble_eq_true rfl)⟩ rfl rfl dX13_alone_181 rfl ⟨(Nat.le_of_ble_eq_true rfl), (Nat.le_of_ble_eq_true rfl)⟩ (Nat.le_of_ble_eq_true rfl) (by first | with_reducible assumption) rfl (m_tellM G _ b nc np pl R hm p3 p4 sz ly vo mp X Y hb fs0 hq0 MY O MO o ho how d hd h60 h61 mc hmc h62 hMB hb fs0 hm9 hq0.1 fsE.rf (fun _ _ _ => rfl) _ T (bxk (cc 0) (n 0 - 1) 0) (bxk (cc 0) (n 0 - 1) 1) (bxk (cc 0) (n 0 - 1) 2) (bxk (cc 0) (n 0 - 1) 3) (pg 0 : Int) (-1) (n 0 : Int) (by omega) (by omega) b0 b1 b2 b3 (nI (n 0)).toInt64 (show (nI (n 0)).toInt64 = jN (n 0 : Int) from iN_64 (x := (n 0 : Int)) (by omega) (by omega)) (nI (pg 0)) (-1) rfl rfl) (fun v9 h1 z1 hq9 => ?_)
              obtain ⟨rfl, rfl, fs1, u1, u2, u3, u4, T1⟩ := hq9
              refine v_sub (L' := [(2, _), (1, _), (0, _)]) [0, 1, 2] rfl ?_
              first
                | exact absurd ((show nI kd = 2 from c_79).symm.trans (show nI kd = 4 from c_132)) (by decide)
                | (refine hk h2 fs2 v1 v2 v3 v4 ?_
                   first
                     | (rw [show aQ1 (mvW mp ((O.getD o ([], 0)).1.take d)) kd x3 x4 x6 (mc : Int) n pg cc (arM (crR (fun k => (X (pg 0) k, Y (pg 0) k)) (sz (pg 0))) (sz (pg 0))) = _ from if_pos (nI_11 kd r1 0 (by decide) c_23), ← List.append_assoc]; exact T2)
                     | (rw [show aQ1 (mvW mp ((O.getD o ([], 0)).1.take d)) kd x3 x4 x6 (mc : Int) n pg cc (arM (crR (fun k => (X (pg 0) k, Y (pg 0) k)) (sz (pg 0))) (sz (pg 0))) = _ from (if_neg (fun e9 => c_23 (congrArg nI e9))).trans (if_pos (nI_11 kd r1 1 (by decide) c_51)), ← List.append_assoc]; exact T2))
                | (have g9 := (jN_lt (by omega) (by omega) (by omega) (by omega)).mp (Int64.not_le.mp c_97)
                   refine hk h1 fs1 u1 u2 u3 u4 ?_
                   rw [show aQ1 (mvW mp ((O.getD o ([], 0)).1.take d)) kd x3 x4 x6 (mc : Int) n pg cc (arM (crR (fun k => (X (pg 0) k, Y (pg 0) k)) (sz (pg 0))) (sz (pg 0))) = aQm (mvW mp ((O.getD o ([], 0)).1.take d)) x3 (mc : Int) n pg cc (arM (crR (fun k => (X (pg 0) k, Y (pg 0) k)) (sz (pg 0))) (sz (pg 0))) from (if_neg (fun e9 => c_23 (congrArg nI e9))).trans ((if_neg (fun e9 => c_51 (congrArg nI e9))).trans (if_pos (nI_11 kd r1 2 (by decide) c_79))), show aQm (mvW mp ((O.getD o ([], 0)).1.take d)) x3 (mc : Int) n pg cc (arM (crR (fun k => (X (pg 0) k, Y (pg 0) k)) (sz (pg 0))) (sz (pg 0))) = [_] from if_pos g9]
                   exact T1)
                | (have g9 := (jN_lt (by omega) (by omega) (by omega) (by omega)).mp (Int64.not_le.mp c_152)
                   refine hk h1 fs1 u1 u2 u3 u4 ?_
                   have h4 := nI_11 kd r1 4 (by decide) c_132
                   rw [show aQ1 (mvW mp ((O.getD o ([], 0)).1.take d)) kd x3 x4 x6 (mc : Int) n pg cc (arM (crR (fun k => (X (pg 0) k, Y (pg 0) k)) (sz (pg 0))) (sz (pg 0))) = aQm (mvW mp ((O.getD o ([], 0)).1.take d)) x3 (mc : Int) n pg cc (n 0 : Int) from (if_neg (by omega)).trans ((if_neg (by omega)).trans ((if_neg (by omega)).trans (if_pos h4))), show aQm (mvW mp ((O.getD o ([], 0)).1.take d)) x3 (mc : Int) n pg cc (n 0 : Int) = [_] from if_pos g9]
                   exact T1)
                | (refine hk hb fs0 hm9 hq0.1 fsE.rf (fun _ _ _ => rfl) ?_
                   rw [show aQ1 (mvW mp ((O.getD o ([], 0)).1.take d)) kd x3 x4 x6 (mc : Int) n pg cc (arM (crR (fun k => (X (pg 0) k, Y (pg 0) k)) (sz (pg 0))) (sz (pg 0))) = [] from ?_, List.append_nil]
                   · exact T
                   · first
                       | (have g9 := (jN_le (by omega) (by omega) (by omega) (by omega)).mp c_97
                          rw [show aQ1 (mvW mp ((O.getD o ([], 0)).1.take d)) kd x3 x4 x6 (mc : Int) n pg cc (arM (crR (fun k => (X (pg 0) k, Y (pg 0) k)) (sz (pg 0))) (sz (pg 0))) = aQm (mvW mp ((O.getD o ([], 0)).1.take d)) x3 (mc : Int) n pg cc (arM (crR (fun k => (X (pg 0) k, Y (pg 0) k)) (sz (pg 0))) (sz (pg 0))) from (if_neg (fun e9 => c_23 (congrArg nI e9))).trans ((if_neg (fun e9 => c_51 (congrArg nI e9))).trans (if_pos (nI_11 kd r1 2 (by decide) c_79)))]
                          exact if_neg (Int.not_lt.mpr g9))
                       | (have g9 := (jN_le (by omega) (by omega) (by omega) (by omega)).mp c_152
                          have h4 := nI_11 kd r1 4 (by decide) c_132
                          rw [show aQ1 (mvW mp ((O.getD o ([], 0)).1.take d)) kd x3 x4 x6 (mc : Int) n pg cc (arM (crR (fun k => (X (pg 0) k, Y (pg 0) k)) (sz (pg 0))) (sz (pg 0))) = aQm (mvW mp ((O.getD o ([], 0)).1.take d)) x3 (mc : Int) n pg cc (n 0 : Int) from (if_neg (by omega)).trans ((if_neg (by omega)).trans ((if_neg (by omega)).trans (if_pos h4)))]
                          exact if_neg (Int.not_lt.mpr g9))
                       | exact (if_neg (fun e9 => c_23 (congrArg nI e9))).trans ((if_neg (fun e9 => c_51 (congrArg nI e9))).trans ((if_neg (fun e9 => c_79 (congrArg nI e9))).trans (if_neg (fun e9 => c_132 (congrArg nI e9))))))
        · refine v_aload_n dX13_alone_100 rfl 2 rfl ?_
          refine v_aload_n dX13_alone_101 rfl 2 rfl ?_
          refine v_getf 54 (ci := 11) (C := RX13) (T := TX13) (N := 71) rfl iwX13_alone_X13 (Nat.le_of_ble_eq_true rfl) (by decide +kernel) dX13_alone_102 (by first | with_reducible assumption) (by repeat (first | with_reducible assumption | (with_reducible refine (sv_ls (by first | omega | (simp only [List.length_set]; omega))).trans ?_; exact rfl) | with_reducible refine (List.getElem?_set_ne (by decide)).trans ?_)) ?_
          refine v_aload_n dX13_alone_105 rfl 2 rfl ?_
          refine v_getf 55 (ci := 11) (C := RX13) (T := TX13) (N := 71) rfl iwX13_alone_X13 (Nat.le_of_ble_eq_true rfl) (by decide +kernel) dX13_alone_106 (by first | with_reducible assumption) (by repeat (first | with_reducible assumption | (with_reducible refine (sv_ls (by first | omega | (simp only [List.length_set]; omega))).trans ?_; exact rfl) | with_reducible refine (List.getElem?_set_ne (by decide)).trans ?_)) ?_
          refine v_aload_n dX13_alone_109 rfl 2 rfl ?_
          refine v_getf 56 (ci := 11) (C := RX13) (T := TX13) (N := 71) rfl iwX13_alone_X13 (Nat.le_of_ble_eq_true rfl) (by decide +kernel) dX13_alone_110 (by first | with_reducible assumption) (by repeat (first | with_reducible assumption | (with_reducible refine (sv_ls (by first | omega | (simp only [List.length_set]; omega))).trans ?_; exact rfl) | with_reducible refine (List.getElem?_set_ne (by decide)).trans ?_)) ?_
          refine v_aload_n dX13_alone_113 rfl 2 rfl ?_
          refine v_getf 57 (ci := 11) (C := RX13) (T := TX13) (N := 71) rfl iwX13_alone_X13 (Nat.le_of_ble_eq_true rfl) (by decide +kernel) dX13_alone_114 (by first | with_reducible assumption) (by repeat (first | with_reducible assumption | (with_reducible refine (sv_ls (by first | omega | (simp only [List.length_set]; omega))).trans ?_; exact rfl) | with_reducible refine (List.getElem?_set_ne (by decide)).trans ?_)) ?_
          refine v_iload_n dX13_alone_117 rfl 1 rfl ?_
          refine v_iconst (v := (-1)) dX13_alone_118 (by decide) ?_
          refine v_aload_n dX13_alone_119 rfl 2 rfl ?_
          refine v_iload_n dX13_alone_120 rfl 1 rfl ?_
          refine v_callVw (M' := mX13_areaOf) (n := 1) (As := [_]) (ci := 11) (r := (RX13, TX13, 71)) gX13_alone_X13_areaOf rfl (by decide +kernel) ⟨(Nat.le_of_ble_eq_true rfl), (Nat.le_of_ble_eq_true rfl)⟩ rfl rfl dX13_alone_121 rfl ⟨(Nat.le_of_ble_eq_true rfl), (Nat.le_of_ble_eq_true rfl)⟩ (Nat.le_of_ble_eq_true rfl) (Nat.le_of_ble_eq_true rfl) (by first | with_reducible assumption) rfl (m_areaOf G _ b nc np pl R hm p3 p4 sz ly vo mp X Y hb fs0 hq0 MY hb fs0 hm9 hq0.1 [] fsE.rf (by decide) (fun _ _ _ => rfl) (pg 0) hp hp0 hpb) (fun v9 h9 y9 hq => v_pq hq ?_)
          refine v_callVq (M' := mX13_tell) (n := 7) (As := [_, _, _, _, _, _, _]) (ci := 11) (r := (RX13, TX13, 71)) gX13_alone_X13_tell rfl (by decide +kernel) ⟨(Nat.le_of_ble_eq_true rfl), (Nat.le_of_ble_eq_true rfl)⟩ rfl rfl dX13_alone_124 rfl ⟨(Nat.le_of_ble_eq_true rfl), (Nat.le_of_ble_eq_true rfl)⟩ (Nat.le_of_ble_eq_true rfl) (by first | with_reducible assumption) rfl (m_tellM G _ b nc np pl R hm p3 p4 sz ly vo mp X Y hb fs0 hq0 MY O MO o ho how d hd h60 h61 mc hmc h62 hMB hb fs0 hm9 hq0.1 fsE.rf (fun _ _ _ => rfl) _ T (bxk (cc 0) (n 0 - 1) 0) (bxk (cc 0) (n 0 - 1) 1) (bxk (cc 0) (n 0 - 1) 2) (bxk (cc 0) (n 0 - 1) 3) (pg 0 : Int) (-1) (arM (crR (fun k => (X (pg 0) k, Y (pg 0) k)) (sz (pg 0))) (sz (pg 0))) (by omega) (by omega) b0 b1 b2 b3 _ rfl (nI (pg 0)) (-1) rfl rfl) (fun v9 h1 z1 hq9 => ?_)
          obtain ⟨rfl, rfl, fs1, u1, u2, u3, u4, T1⟩ := hq9
          refine v_goto (tgt := 184) dX13_alone_127 (by decide) ?_
          refine v_sub (L' := [(2, _), (1, _), (0, _)]) [0, 1, 2] rfl ?_
          first
            | exact absurd ((show nI kd = 2 from c_79).symm.trans (show nI kd = 4 from c_132)) (by decide)
            | (refine hk h2 fs2 v1 v2 v3 v4 ?_
               first
                 | (rw [show aQ1 (mvW mp ((O.getD o ([], 0)).1.take d)) kd x3 x4 x6 (mc : Int) n pg cc (arM (crR (fun k => (X (pg 0) k, Y (pg 0) k)) (sz (pg 0))) (sz (pg 0))) = _ from if_pos (nI_11 kd r1 0 (by decide) c_23), ← List.append_assoc]; exact T2)
                 | (rw [show aQ1 (mvW mp ((O.getD o ([], 0)).1.take d)) kd x3 x4 x6 (mc : Int) n pg cc (arM (crR (fun k => (X (pg 0) k, Y (pg 0) k)) (sz (pg 0))) (sz (pg 0))) = _ from (if_neg (fun e9 => c_23 (congrArg nI e9))).trans (if_pos (nI_11 kd r1 1 (by decide) c_51)), ← List.append_assoc]; exact T2))
            | (have g9 := (jN_lt (by omega) (by omega) (by omega) (by omega)).mp (Int64.not_le.mp c_97)
               refine hk h1 fs1 u1 u2 u3 u4 ?_
               rw [show aQ1 (mvW mp ((O.getD o ([], 0)).1.take d)) kd x3 x4 x6 (mc : Int) n pg cc (arM (crR (fun k => (X (pg 0) k, Y (pg 0) k)) (sz (pg 0))) (sz (pg 0))) = aQm (mvW mp ((O.getD o ([], 0)).1.take d)) x3 (mc : Int) n pg cc (arM (crR (fun k => (X (pg 0) k, Y (pg 0) k)) (sz (pg 0))) (sz (pg 0))) from (if_neg (fun e9 => c_23 (congrArg nI e9))).trans ((if_neg (fun e9 => c_51 (congrArg nI e9))).trans (if_pos (nI_11 kd r1 2 (by decide) c_79))), show aQm (mvW mp ((O.getD o ([], 0)).1.take d)) x3 (mc : Int) n pg cc (arM (crR (fun k => (X (pg 0) k, Y (pg 0) k)) (sz (pg 0))) (sz (pg 0))) = [_] from if_pos g9]
               exact T1)
            | (have g9 := (jN_lt (by omega) (by omega) (by omega) (by omega)).mp (Int64.not_le.mp c_152)
               refine hk h1 fs1 u1 u2 u3 u4 ?_
               have h4 := nI_11 kd r1 4 (by decide) c_132
               rw [show aQ1 (mvW mp ((O.getD o ([], 0)).1.take d)) kd x3 x4 x6 (mc : Int) n pg cc (arM (crR (fun k => (X (pg 0) k, Y (pg 0) k)) (sz (pg 0))) (sz (pg 0))) = aQm (mvW mp ((O.getD o ([], 0)).1.take d)) x3 (mc : Int) n pg cc (n 0 : Int) from (if_neg (by omega)).trans ((if_neg (by omega)).trans ((if_neg (by omega)).trans (if_pos h4))), show aQm (mvW mp ((O.getD o ([], 0)).1.take d)) x3 (mc : Int) n pg cc (n 0 : Int) = [_] from if_pos g9]
               exact T1)
            | (refine hk hb fs0 hm9 hq0.1 fsE.rf (fun _ _ _ => rfl) ?_
               rw [show aQ1 (mvW mp ((O.getD o ([], 0)).1.take d)) kd x3 x4 x6 (mc : Int) n pg cc (arM (crR (fun k => (X (pg 0) k, Y (pg 0) k)) (sz (pg 0))) (sz (pg 0))) = [] from ?_, List.append_nil]
               · exact T
               · first
                   | (have g9 := (jN_le (by omega) (by omega) (by omega) (by omega)).mp c_97
                      rw [show aQ1 (mvW mp ((O.getD o ([], 0)).1.take d)) kd x3 x4 x6 (mc : Int) n pg cc (arM (crR (fun k => (X (pg 0) k, Y (pg 0) k)) (sz (pg 0))) (sz (pg 0))) = aQm (mvW mp ((O.getD o ([], 0)).1.take d)) x3 (mc : Int) n pg cc (arM (crR (fun k => (X (pg 0) k, Y (pg 0) k)) (sz (pg 0))) (sz (pg 0))) from (if_neg (fun e9 => c_23 (congrArg nI e9))).trans ((if_neg (fun e9 => c_51 (congrArg nI e9))).trans (if_pos (nI_11 kd r1 2 (by decide) c_79)))]
                      exact if_neg (Int.not_lt.mpr g9))
                   | (have g9 := (jN_le (by omega) (by omega) (by omega) (by omega)).mp c_152
                      have h4 := nI_11 kd r1 4 (by decide) c_132
                      rw [show aQ1 (mvW mp ((O.getD o ([], 0)).1.take d)) kd x3 x4 x6 (mc : Int) n pg cc (arM (crR (fun k => (X (pg 0) k, Y (pg 0) k)) (sz (pg 0))) (sz (pg 0))) = aQm (mvW mp ((O.getD o ([], 0)).1.take d)) x3 (mc : Int) n pg cc (n 0 : Int) from (if_neg (by omega)).trans ((if_neg (by omega)).trans ((if_neg (by omega)).trans (if_pos h4)))]
                      exact if_neg (Int.not_lt.mpr g9))
                   | exact (if_neg (fun e9 => c_23 (congrArg nI e9))).trans ((if_neg (fun e9 => c_51 (congrArg nI e9))).trans ((if_neg (fun e9 => c_79 (congrArg nI e9))).trans (if_neg (fun e9 => c_132 (congrArg nI e9))))))
    · refine v_aload_n dX13_alone_54 rfl 2 rfl ?_
      refine v_iconst (v := 0) dX13_alone_55 (by decide) ?_
      refine v_iconst (v := 0) dX13_alone_56 (by decide) ?_
      refine v_iconst (v := 0) dX13_alone_57 (by decide) ?_
      refine v_iconst (v := 2) dX13_alone_58 (by decide) ?_
      refine v_lconst (v := 1) dX13_alone_59 (by decide) ?_
      refine v_iconst (v := 0) dX13_alone_60 (by decide) ?_
      refine v_callVq (M' := mX13_gaps) (n := 6) (As := [_, _, _, _, _, _]) (ci := 11) (r := (RX13, TX13, 71)) gX13_alone_X13_gaps rfl (by decide +kernel) ⟨(Nat.le_of_ble_eq_true rfl), (Nat.le_of_ble_eq_true rfl)⟩ rfl rfl dX13_alone_61 rfl ⟨(Nat.le_of_ble_eq_true rfl), (Nat.le_of_ble_eq_true rfl)⟩ (Nat.le_of_ble_eq_true rfl) (by first | with_reducible assumption) rfl (m_gapsL G _ b nc np pl R hm p3 p4 sz ly vo mp X Y hb fs0 hq0 MY O MO o ho how d hd h60 h61 mc hmc h62 hMB ri kd l1 l2 x3 x4 x5 x6 RU h58 hen 1 n pg cc LD LK 0 0 0 2 (by decide) (by decide) (by decide) (by decide) 1 (by decide) 0 _ _ _ _ _ rfl rfl rfl rfl rfl hb fs0 hm9 hq0.1 fsE.rf (fun _ _ _ => rfl) _ T) (fun v9 h1 z1 hq9 => ?_)
      obtain ⟨rfl, rfl, fs1, u1, u2, u3, u4, T1⟩ := hq9
      refine v_aload_n dX13_alone_64 rfl 2 rfl ?_
      refine v_iconst (v := 0) dX13_alone_65 (by decide) ?_
      refine v_iconst (v := 1) dX13_alone_66 (by decide) ?_
      refine v_iconst (v := 0) dX13_alone_67 (by decide) ?_
      refine v_iconst (v := 3) dX13_alone_68 (by decide) ?_
      refine v_lconst (v := 1) dX13_alone_69 (by decide) ?_
      refine v_iconst (v := 0) dX13_alone_70 (by decide) ?_
      refine v_callVq (M' := mX13_gaps) (n := 6) (As := [_, _, _, _, _, _]) (ci := 11) (r := (RX13, TX13, 71)) gX13_alone_X13_gaps rfl (by decide +kernel) ⟨(Nat.le_of_ble_eq_true rfl), (Nat.le_of_ble_eq_true rfl)⟩ rfl rfl dX13_alone_71 rfl ⟨(Nat.le_of_ble_eq_true rfl), (Nat.le_of_ble_eq_true rfl)⟩ (Nat.le_of_ble_eq_true rfl) (by first | with_reducible assumption) rfl (m_gapsL G _ b nc np pl R hm p3 p4 sz ly vo mp X Y hb fs0 hq0 MY O MO o ho how d hd h60 h61 mc hmc h62 hMB ri kd l1 l2 x3 x4 x5 x6 RU h58 hen 1 n pg cc LD LK 0 0 1 3 (by decide) (by decide) (by decide) (by decide) 1 (by decide) 0 _ _ _ _ _ rfl rfl rfl rfl rfl h1 fs1 u1 u2 u3 u4 _ T1) (fun v9 h2 z2 hq9 => ?_)
      obtain ⟨rfl, rfl, fs2, v1, v2, v3, v4, T2⟩ := hq9
      refine v_goto (tgt := 184) dX13_alone_74 (by decide) ?_
      refine v_sub (L' := [(2, _), (1, _), (0, _)]) [0, 1, 2] rfl ?_
      first
        | exact absurd ((show nI kd = 2 from c_79).symm.trans (show nI kd = 4 from c_132)) (by decide)
        | (refine hk h2 fs2 v1 v2 v3 v4 ?_
           first
             | (rw [show aQ1 (mvW mp ((O.getD o ([], 0)).1.take d)) kd x3 x4 x6 (mc : Int) n pg cc (arM (crR (fun k => (X (pg 0) k, Y (pg 0) k)) (sz (pg 0))) (sz (pg 0))) = _ from if_pos (nI_11 kd r1 0 (by decide) c_23), ← List.append_assoc]; exact T2)
             | (rw [show aQ1 (mvW mp ((O.getD o ([], 0)).1.take d)) kd x3 x4 x6 (mc : Int) n pg cc (arM (crR (fun k => (X (pg 0) k, Y (pg 0) k)) (sz (pg 0))) (sz (pg 0))) = _ from (if_neg (fun e9 => c_23 (congrArg nI e9))).trans (if_pos (nI_11 kd r1 1 (by decide) c_51)), ← List.append_assoc]; exact T2))
        | (have g9 := (jN_lt (by omega) (by omega) (by omega) (by omega)).mp (Int64.not_le.mp c_97)
           refine hk h1 fs1 u1 u2 u3 u4 ?_
           rw [show aQ1 (mvW mp ((O.getD o ([], 0)).1.take d)) kd x3 x4 x6 (mc : Int) n pg cc (arM (crR (fun k => (X (pg 0) k, Y (pg 0) k)) (sz (pg 0))) (sz (pg 0))) = aQm (mvW mp ((O.getD o ([], 0)).1.take d)) x3 (mc : Int) n pg cc (arM (crR (fun k => (X (pg 0) k, Y (pg 0) k)) (sz (pg 0))) (sz (pg 0))) from (if_neg (fun e9 => c_23 (congrArg nI e9))).trans ((if_neg (fun e9 => c_51 (congrArg nI e9))).trans (if_pos (nI_11 kd r1 2 (by decide) c_79))), show aQm (mvW mp ((O.getD o ([], 0)).1.take d)) x3 (mc : Int) n pg cc (arM (crR (fun k => (X (pg 0) k, Y (pg 0) k)) (sz (pg 0))) (sz (pg 0))) = [_] from if_pos g9]
           exact T1)
        | (have g9 := (jN_lt (by omega) (by omega) (by omega) (by omega)).mp (Int64.not_le.mp c_152)
           refine hk h1 fs1 u1 u2 u3 u4 ?_
           have h4 := nI_11 kd r1 4 (by decide) c_132
           rw [show aQ1 (mvW mp ((O.getD o ([], 0)).1.take d)) kd x3 x4 x6 (mc : Int) n pg cc (arM (crR (fun k => (X (pg 0) k, Y (pg 0) k)) (sz (pg 0))) (sz (pg 0))) = aQm (mvW mp ((O.getD o ([], 0)).1.take d)) x3 (mc : Int) n pg cc (n 0 : Int) from (if_neg (by omega)).trans ((if_neg (by omega)).trans ((if_neg (by omega)).trans (if_pos h4))), show aQm (mvW mp ((O.getD o ([], 0)).1.take d)) x3 (mc : Int) n pg cc (n 0 : Int) = [_] from if_pos g9]
           exact T1)
        | (refine hk hb fs0 hm9 hq0.1 fsE.rf (fun _ _ _ => rfl) ?_
           rw [show aQ1 (mvW mp ((O.getD o ([], 0)).1.take d)) kd x3 x4 x6 (mc : Int) n pg cc (arM (crR (fun k => (X (pg 0) k, Y (pg 0) k)) (sz (pg 0))) (sz (pg 0))) = [] from ?_, List.append_nil]
           · exact T
           · first
               | (have g9 := (jN_le (by omega) (by omega) (by omega) (by omega)).mp c_97
                  rw [show aQ1 (mvW mp ((O.getD o ([], 0)).1.take d)) kd x3 x4 x6 (mc : Int) n pg cc (arM (crR (fun k => (X (pg 0) k, Y (pg 0) k)) (sz (pg 0))) (sz (pg 0))) = aQm (mvW mp ((O.getD o ([], 0)).1.take d)) x3 (mc : Int) n pg cc (arM (crR (fun k => (X (pg 0) k, Y (pg 0) k)) (sz (pg 0))) (sz (pg 0))) from (if_neg (fun e9 => c_23 (congrArg nI e9))).trans ((if_neg (fun e9 => c_51 (congrArg nI e9))).trans (if_pos (nI_11 kd r1 2 (by decide) c_79)))]
                  exact if_neg (Int.not_lt.mpr g9))
               | (have g9 := (jN_le (by omega) (by omega) (by omega) (by omega)).mp c_152
                  have h4 := nI_11 kd r1 4 (by decide) c_132
                  rw [show aQ1 (mvW mp ((O.getD o ([], 0)).1.take d)) kd x3 x4 x6 (mc : Int) n pg cc (arM (crR (fun k => (X (pg 0) k, Y (pg 0) k)) (sz (pg 0))) (sz (pg 0))) = aQm (mvW mp ((O.getD o ([], 0)).1.take d)) x3 (mc : Int) n pg cc (n 0 : Int) from (if_neg (by omega)).trans ((if_neg (by omega)).trans ((if_neg (by omega)).trans (if_pos h4)))]
                  exact if_neg (Int.not_lt.mpr g9))
               | exact (if_neg (fun e9 => c_23 (congrArg nI e9))).trans ((if_neg (fun e9 => c_51 (congrArg nI e9))).trans ((if_neg (fun e9 => c_79 (congrArg nI e9))).trans (if_neg (fun e9 => c_132 (congrArg nI e9))))))
  · refine v_aload_n dX13_alone_26 rfl 2 rfl ?_
    refine v_iconst (v := 0) dX13_alone_27 (by decide) ?_
    refine v_iconst (v := 2) dX13_alone_28 (by decide) ?_
    refine v_iconst (v := 0) dX13_alone_29 (by decide) ?_
    refine v_iconst (v := 0) dX13_alone_30 (by decide) ?_
    refine v_lconst (v := 1) dX13_alone_31 (by decide) ?_
    refine v_iconst (v := 0) dX13_alone_32 (by decide) ?_
    refine v_callVq (M' := mX13_gaps) (n := 6) (As := [_, _, _, _, _, _]) (ci := 11) (r := (RX13, TX13, 71)) gX13_alone_X13_gaps rfl (by decide +kernel) ⟨(Nat.le_of_ble_eq_true rfl), (Nat.le_of_ble_eq_true rfl)⟩ rfl rfl dX13_alone_33 rfl ⟨(Nat.le_of_ble_eq_true rfl), (Nat.le_of_ble_eq_true rfl)⟩ (Nat.le_of_ble_eq_true rfl) (by first | with_reducible assumption) rfl (m_gapsL G _ b nc np pl R hm p3 p4 sz ly vo mp X Y hb fs0 hq0 MY O MO o ho how d hd h60 h61 mc hmc h62 hMB ri kd l1 l2 x3 x4 x5 x6 RU h58 hen 1 n pg cc LD LK 0 0 2 0 (by decide) (by decide) (by decide) (by decide) 1 (by decide) 0 _ _ _ _ _ rfl rfl rfl rfl rfl hb fs0 hm9 hq0.1 fsE.rf (fun _ _ _ => rfl) _ T) (fun v9 h1 z1 hq9 => ?_)
    obtain ⟨rfl, rfl, fs1, u1, u2, u3, u4, T1⟩ := hq9
    refine v_aload_n dX13_alone_36 rfl 2 rfl ?_
    refine v_iconst (v := 0) dX13_alone_37 (by decide) ?_
    refine v_iconst (v := 3) dX13_alone_38 (by decide) ?_
    refine v_iconst (v := 0) dX13_alone_39 (by decide) ?_
    refine v_iconst (v := 1) dX13_alone_40 (by decide) ?_
    refine v_lconst (v := 1) dX13_alone_41 (by decide) ?_
    refine v_iconst (v := 0) dX13_alone_42 (by decide) ?_
    refine v_callVq (M' := mX13_gaps) (n := 6) (As := [_, _, _, _, _, _]) (ci := 11) (r := (RX13, TX13, 71)) gX13_alone_X13_gaps rfl (by decide +kernel) ⟨(Nat.le_of_ble_eq_true rfl), (Nat.le_of_ble_eq_true rfl)⟩ rfl rfl dX13_alone_43 rfl ⟨(Nat.le_of_ble_eq_true rfl), (Nat.le_of_ble_eq_true rfl)⟩ (Nat.le_of_ble_eq_true rfl) (by first | with_reducible assumption) rfl (m_gapsL G _ b nc np pl R hm p3 p4 sz ly vo mp X Y hb fs0 hq0 MY O MO o ho how d hd h60 h61 mc hmc h62 hMB ri kd l1 l2 x3 x4 x5 x6 RU h58 hen 1 n pg cc LD LK 0 0 3 1 (by decide) (by decide) (by decide) (by decide) 1 (by decide) 0 _ _ _ _ _ rfl rfl rfl rfl rfl h1 fs1 u1 u2 u3 u4 _ T1) (fun v9 h2 z2 hq9 => ?_)
    obtain ⟨rfl, rfl, fs2, v1, v2, v3, v4, T2⟩ := hq9
    refine v_goto (tgt := 184) dX13_alone_46 (by decide) ?_
    refine v_sub (L' := [(2, _), (1, _), (0, _)]) [0, 1, 2] rfl ?_
    first
      | exact absurd ((show nI kd = 2 from c_79).symm.trans (show nI kd = 4 from c_132)) (by decide)
      | (refine hk h2 fs2 v1 v2 v3 v4 ?_
         first
           | (rw [show aQ1 (mvW mp ((O.getD o ([], 0)).1.take d)) kd x3 x4 x6 (mc : Int) n pg cc (arM (crR (fun k => (X (pg 0) k, Y (pg 0) k)) (sz (pg 0))) (sz (pg 0))) = _ from if_pos (nI_11 kd r1 0 (by decide) c_23), ← List.append_assoc]; exact T2)
           | (rw [show aQ1 (mvW mp ((O.getD o ([], 0)).1.take d)) kd x3 x4 x6 (mc : Int) n pg cc (arM (crR (fun k => (X (pg 0) k, Y (pg 0) k)) (sz (pg 0))) (sz (pg 0))) = _ from (if_neg (fun e9 => c_23 (congrArg nI e9))).trans (if_pos (nI_11 kd r1 1 (by decide) c_51)), ← List.append_assoc]; exact T2))
      | (have g9 := (jN_lt (by omega) (by omega) (by omega) (by omega)).mp (Int64.not_le.mp c_97)
         refine hk h1 fs1 u1 u2 u3 u4 ?_
         rw [show aQ1 (mvW mp ((O.getD o ([], 0)).1.take d)) kd x3 x4 x6 (mc : Int) n pg cc (arM (crR (fun k => (X (pg 0) k, Y (pg 0) k)) (sz (pg 0))) (sz (pg 0))) = aQm (mvW mp ((O.getD o ([], 0)).1.take d)) x3 (mc : Int) n pg cc (arM (crR (fun k => (X (pg 0) k, Y (pg 0) k)) (sz (pg 0))) (sz (pg 0))) from (if_neg (fun e9 => c_23 (congrArg nI e9))).trans ((if_neg (fun e9 => c_51 (congrArg nI e9))).trans (if_pos (nI_11 kd r1 2 (by decide) c_79))), show aQm (mvW mp ((O.getD o ([], 0)).1.take d)) x3 (mc : Int) n pg cc (arM (crR (fun k => (X (pg 0) k, Y (pg 0) k)) (sz (pg 0))) (sz (pg 0))) = [_] from if_pos g9]
         exact T1)
      | (have g9 := (jN_lt (by omega) (by omega) (by omega) (by omega)).mp (Int64.not_le.mp c_152)
         refine hk h1 fs1 u1 u2 u3 u4 ?_
         have h4 := nI_11 kd r1 4 (by decide) c_132
         rw [show aQ1 (mvW mp ((O.getD o ([], 0)).1.take d)) kd x3 x4 x6 (mc : Int) n pg cc (arM (crR (fun k => (X (pg 0) k, Y (pg 0) k)) (sz (pg 0))) (sz (pg 0))) = aQm (mvW mp ((O.getD o ([], 0)).1.take d)) x3 (mc : Int) n pg cc (n 0 : Int) from (if_neg (by omega)).trans ((if_neg (by omega)).trans ((if_neg (by omega)).trans (if_pos h4))), show aQm (mvW mp ((O.getD o ([], 0)).1.take d)) x3 (mc : Int) n pg cc (n 0 : Int) = [_] from if_pos g9]
         exact T1)
      | (refine hk hb fs0 hm9 hq0.1 fsE.rf (fun _ _ _ => rfl) ?_
         rw [show aQ1 (mvW mp ((O.getD o ([], 0)).1.take d)) kd x3 x4 x6 (mc : Int) n pg cc (arM (crR (fun k => (X (pg 0) k, Y (pg 0) k)) (sz (pg 0))) (sz (pg 0))) = [] from ?_, List.append_nil]
         · exact T
         · first
             | (have g9 := (jN_le (by omega) (by omega) (by omega) (by omega)).mp c_97
                rw [show aQ1 (mvW mp ((O.getD o ([], 0)).1.take d)) kd x3 x4 x6 (mc : Int) n pg cc (arM (crR (fun k => (X (pg 0) k, Y (pg 0) k)) (sz (pg 0))) (sz (pg 0))) = aQm (mvW mp ((O.getD o ([], 0)).1.take d)) x3 (mc : Int) n pg cc (arM (crR (fun k => (X (pg 0) k, Y (pg 0) k)) (sz (pg 0))) (sz (pg 0))) from (if_neg (fun e9 => c_23 (congrArg nI e9))).trans ((if_neg (fun e9 => c_51 (congrArg nI e9))).trans (if_pos (nI_11 kd r1 2 (by decide) c_79)))]
                exact if_neg (Int.not_lt.mpr g9))
             | (have g9 := (jN_le (by omega) (by omega) (by omega) (by omega)).mp c_152
                have h4 := nI_11 kd r1 4 (by decide) c_132
                rw [show aQ1 (mvW mp ((O.getD o ([], 0)).1.take d)) kd x3 x4 x6 (mc : Int) n pg cc (arM (crR (fun k => (X (pg 0) k, Y (pg 0) k)) (sz (pg 0))) (sz (pg 0))) = aQm (mvW mp ((O.getD o ([], 0)).1.take d)) x3 (mc : Int) n pg cc (n 0 : Int) from (if_neg (by omega)).trans ((if_neg (by omega)).trans ((if_neg (by omega)).trans (if_pos h4)))]
                exact if_neg (Int.not_lt.mpr g9))
             | exact (if_neg (fun e9 => c_23 (congrArg nI e9))).trans ((if_neg (fun e9 => c_51 (congrArg nI e9))).trans ((if_neg (fun e9 => c_79 (congrArg nI e9))).trans (if_neg (fun e9 => c_132 (congrArg nI e9))))))

set_option maxHeartbeats 4000000 in
set_option maxRecDepth 100000 in
theorem m_alone (G : sv_G) (z b nc np pl : Nat) (R : Nat → Bool) (hm p3 p4 sz : Nat → Nat) (ly vo : Nat → Int32) (mp : Nat → mvT) (X Y : Nat → Nat → Int) (hb : sv_h) (fs0 : List Value) (hq0 : mfq_ b nc np pl fs0) (MY : myl_ G hb b nc np pl R hm p3 p4 sz ly vo mp X Y) (O : List (List Nat × Nat)) (MO : moc_ G hb b O) (o : Nat) (ho : o < O.length) (how : ∀ i, i ∈ (O.getD o ([], 0)).1 → i < pl) (d : Nat) (hd : d ≤ (O.getD o ([], 0)).1.length) (h60 : fs0[60]? = some (.int (nI o))) (h61 : fs0[61]? = some (.int (nI d))) (mc : Nat) (hmc : mc < 100) (h62 : fs0[62]? = some (.int (nI mc))) (hMB : ∀ x y : Int, -200000 ≤ x ∧ x ≤ 200000 → -200000 ≤ y ∧ y ≤ 200000 → (-1000000000 ≤ (mvA (mvW mp ((O.getD o ([], 0)).1.take d)) (x, y)).1 ∧ (mvA (mvW mp ((O.getD o ([], 0)).1.take d)) (x, y)).1 ≤ 1000000000) ∧ (-1000000000 ≤ (mvA (mvW mp ((O.getD o ([], 0)).1.take d)) (x, y)).2 ∧ (mvA (mvW mp ((O.getD o ([], 0)).1.take d)) (x, y)).2 ≤ 1000000000)) (ri kd : Nat) (l1 l2 x3 x4 x5 x6 : Int32) (RU : mru_ G hb b ri kd l1 l2 x3 x4 x5 x6) (h58 : fs0[58]? = some (.int (nI ri))) (hen : x6 = -1 ∨ 0 ≤ x6) (n pg : Nat → Nat) (cc : Nat → Nat → Int × Int) (LD : mld_ G hb b 1 n pg cc) (LK : mlk_ 1 n pg cc) (hp : pg 0 < np) (hp0 : 0 < sz (pg 0)) (hpb : ∀ i, i < sz (pg 0) → (-200000 ≤ X (pg 0) i ∧ X (pg 0) i ≤ 200000) ∧ (-200000 ≤ Y (pg 0) i ∧ Y (pg 0) i ≤ 200000)) (hm9 : hb (b + 220) = some (.inr (11, fs0))) (E0 : List (List Int64)) (T : mT_ gu G hb b fs0 E0) : CT G mX13_alone [.ref (b + 220)] hb z (fun v9 h1 z1 => v9 = none ∧ z1 = z ∧ ∃ fs1, h1 (b + 220) = some (.inr (11, fs1)) ∧ fs1.length = 71 ∧ fsE [28, 29, 52, 53, 54, 55, 56, 57] fs0 fs1 ∧ (∀ a, a ≠ b + 220 → a ≠ b + 241 → h1 a = hb a) ∧ mT_ gu G h1 b fs1 (E0 ++ aQ (mvW mp ((O.getD o ([], 0)).1.take d)) kd x3 x4 x6 (mc : Int) n pg cc (arM (crR (fun k => (X (pg 0) k, Y (pg 0) k)) (sz (pg 0))) (sz (pg 0))))) := by
  refine CT.of (by decide +kernel) rfl rfl (Nat.le_of_ble_eq_true rfl) ?_
  have hl := hq0.1
  have hE : fsE [28, 29, 52, 53] fs0 fs0 := fsE.rf
  have fr : ∀ a, a ≠ b + 220 → a ≠ b + 241 → hb a = hb a := fun _ _ _ => rfl
  obtain ⟨k0, k1⟩ := id LK
  obtain ⟨r0, r1, ⟨j33, r33, r33a⟩, _, _, ⟨j36, r36, r36a⟩, _, _, _⟩ := id RU
  obtain ⟨fsd, fo, ft, ff, gx, gy, gp, gl, gh, d49, d50, d51, d52, d53, d54, d55, d56, d57, dd⟩ := id LD
  obtain ⟨⟨zv1, zv2⟩, pv, cv⟩ := k1 0 (by decide)
  obtain ⟨sv1, sv2, sv3, sv4, sv5⟩ := dd 0 (by decide)
  have hqf := hq0.to (S := [28, 29, 52, 53]) hl hE (by decide)
  have hlen : fs0.length = 71 := hl
  have f_sides := hqf.f_sides
  have f_face := hqf.f_face
  have f_pos := hqf.f_pos
  have f_low := hqf.f_low
  have f_high := hqf.f_high
  have f_ofPolygon := hqf.f_ofPolygon
  have f_bound := hqf.f_bound
  have f_kind := hqf.f_kind
  have f_rule : fs0[58]? = some (.int (nI ri)) := (hE 58 (by decide)).trans h58
  have w249 : ab_I G hb (b + 249) 2 fsd := (fr _ (by omega) (by omega)).trans d49
  have w253 : ab_I G hb (b + 253) 32 ff := (fr _ (by omega) (by omega)).trans d53
  have w254 : ab_J G hb (b + 254) 32 gp := (fr _ (by omega) (by omega)).trans d54
  have w255 : ab_J G hb (b + 255) 32 gl := (fr _ (by omega) (by omega)).trans d55
  have w256 : ab_J G hb (b + 256) 32 gh := (fr _ (by omega) (by omega)).trans d56
  have w257 : ab_I G hb (b + 257) 2 fo := (fr _ (by omega) (by omega)).trans d57
  have w236 : ab_J G hb (b + 236) 40 j36 := (fr _ (by omega) (by omega)).trans r36
  have w233 : ab_I G hb (b + 233) 40 j33 := (fr _ (by omega) (by omega)).trans r33
  have X3a := x3.le_toInt
  have X3b := x3.toInt_lt
  refine v_aload_n dX13_alone_0 rfl 0 rfl ?_
  refine v_getf 51 (ci := 11) (C := RX13) (T := TX13) (N := 71) rfl iwX13_alone_X13 (Nat.le_of_ble_eq_true rfl) (by decide +kernel) dX13_alone_1 (by first | with_reducible assumption) (by repeat (first | with_reducible assumption | (with_reducible refine (sv_ls (by first | omega | (simp only [List.length_set]; omega))).trans ?_; exact rfl) | with_reducible refine (List.getElem?_set_ne (by decide)).trans ?_)) ?_
  refine v_iconst (v := 0) dX13_alone_4 (by decide) ?_
  refine v_ialdS (v := nI (pg 0)) dX13_alone_5 (by first | with_reducible assumption) (vp_in_nI (n := 0) (by omega) (by omega)) (by exact sv2) ?_
  refine v_istore_n (L' := [(1, _), (0, _)]) dX13_alone_6 rfl (Nat.le_of_ble_eq_true rfl) rfl ?_
  refine v_aload_n dX13_alone_7 rfl 1 rfl ?_
  refine v_getf 19 (ci := 11) (C := RX13) (T := TX13) (N := 71) rfl iwX13_alone_X13 (Nat.le_of_ble_eq_true rfl) (by decide +kernel) dX13_alone_8 (by first | with_reducible assumption) (by repeat (first | with_reducible assumption | (with_reducible refine (sv_ls (by first | omega | (simp only [List.length_set]; omega))).trans ?_; exact rfl) | with_reducible refine (List.getElem?_set_ne (by decide)).trans ?_)) ?_
  refine v_aload_n dX13_alone_11 rfl 1 rfl ?_
  refine v_getf 58 (ci := 11) (C := RX13) (T := TX13) (N := 71) rfl iwX13_alone_X13 (Nat.le_of_ble_eq_true rfl) (by decide +kernel) dX13_alone_12 (by first | with_reducible assumption) (by repeat (first | with_reducible assumption | (with_reducible refine (sv_ls (by first | omega | (simp only [List.length_set]; omega))).trans ?_; exact rfl) | with_reducible refine (List.getElem?_set_ne (by decide)).trans ?_)) ?_
  refine v_ialdS (v := nI kd) dX13_alone_15 (by first | with_reducible assumption) (vp_in_nI (by omega) (by omega)) (by rw [nI_clamp (by omega)]; exact r33a) ?_
  refine v_istore_n (L' := [(2, _), (1, _), (0, _)]) dX13_alone_16 rfl (Nat.le_of_ble_eq_true rfl) rfl ?_
  refine v_aload_n dX13_alone_17 rfl 2 rfl ?_
  refine v_iconst (v := 0) dX13_alone_18 (by decide) ?_
  refine v_callVq (M' := mX13_boxOf) (n := 1) (As := [_]) (ci := 11) (r := (RX13, TX13, 71)) gX13_alone_X13_boxOf rfl (by decide +kernel) ⟨(Nat.le_of_ble_eq_true rfl), (Nat.le_of_ble_eq_true rfl)⟩ rfl rfl dX13_alone_19 rfl ⟨(Nat.le_of_ble_eq_true rfl), (Nat.le_of_ble_eq_true rfl)⟩ (Nat.le_of_ble_eq_true rfl) (by first | with_reducible assumption) rfl (m_boxOf0 G _ b nc np pl hb fs0 hq0 (n 0) zv2 zv1 (cc 0) (fun i hi => cv i (by omega)) fsd d49 sv1 gx gy d50 d51 (fun k hk9 => (sv4 k (by omega)).1) (fun k hk9 => (sv4 k (by omega)).2) hm9) (fun v9 h1 z1 hq9 => ?_)
  obtain ⟨rfl, rfl, ⟨fs1, u1, u2, u3, f_bx0, f_by0, f_bx1, f_by1⟩, u4⟩ := hq9
  refine v_sub (L' := [(2, _), (1, _), (0, _)]) [0, 1, 2] rfl ?_
  refine t_al22 G _ z1 b nc np pl R hm p3 p4 sz ly vo mp X Y h1 fs1 (hq0.to u2 u3 (by decide)) (MY.kp (fun a p1 p2 => u4 a (by omega))) O (MO.kp (fun a p1 p2 => u4 a (by omega))) o ho how d hd ((u3 60 (by decide)).trans h60) ((u3 61 (by decide)).trans h61) mc hmc ((u3 62 (by decide)).trans h62) hMB ri kd l1 l2 x3 x4 x5 x6 (RU.kp (fun a p1 p2 => u4 a (by omega))) ((u3 58 (by decide)).trans h58) hen n pg cc (LD.kp (fun a p1 p2 => u4 a (by omega))) LK hp hp0 hpb f_bx0 f_by0 f_bx1 f_by1 u1 E0 (T.kp (u4 _ (by omega)) (u3 28 (by decide)) (u3 29 (by decide))) (fun h2 fs2 v1 v2 v3 v4 v5 => ?_)
  refine t_al184 G _ z1 b nc np pl R hm p3 p4 sz ly vo mp X Y h1 fs1 (hq0.to u2 u3 (by decide)) (MY.kp (fun a p1 p2 => u4 a (by omega))) O (MO.kp (fun a p1 p2 => u4 a (by omega))) o ho how d hd ((u3 60 (by decide)).trans h60) ((u3 61 (by decide)).trans h61) mc hmc ((u3 62 (by decide)).trans h62) hMB ri kd l1 l2 x3 x4 x5 x6 (RU.kp (fun a p1 p2 => u4 a (by omega))) ((u3 58 (by decide)).trans h58) hen n pg cc (LD.kp (fun a p1 p2 => u4 a (by omega))) LK (E0 ++ aQ1 (mvW mp ((O.getD o ([], 0)).1.take d)) kd x3 x4 x6 (mc : Int) n pg cc (arM (crR (fun k => (X (pg 0) k, Y (pg 0) k)) (sz (pg 0))) (sz (pg 0)))) (fun h3 fs3 w1 w2 w3 w4 w5 => ?_) h2 fs2 v1 v2 v3 v4 v5
  refine ⟨rfl, rfl, fs3, w1, w2, (u3.up (by decide)).tr (w3.up (by decide)), fun a p1 p2 => (w4 a p1 p2).trans (u4 a p1), ?_⟩
  unfold aQ
  rw [← List.append_assoc]
  exact w5

end GU
