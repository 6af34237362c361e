section GU
variable {gu : Nat → Int64}
theorem lN_to {n : Nat} (h : n ≤ 100000) : (lN n).toInt = (n : Int) := jN_to (a := (n : Int)) (by omega) (by omega)
theorem lN_100 {n : Nat} (h : ¬ (100 : Int64) < lN (min 100000 n)) : n ≤ 100 := by
  rw [Int64.lt_iff_toInt_lt, lN_to (Nat.min_le_left _ _)] at h
  have h : ¬ (100 : Int) < ((min 100000 n : Nat) : Int) := h
  omega
theorem lN_101 {n : Nat} (h : (100 : Int64) < lN (min 100000 n)) : ¬ n ≤ 100 := by
  rw [Int64.lt_iff_toInt_lt, lN_to (Nat.min_le_left _ _)] at h
  have h : (100 : Int) < ((min 100000 n : Nat) : Int) := h
  omega
set_option maxHeartbeats 4000000 in
set_option maxRecDepth 100000 in
theorem m_run (G : sv_G) (z b nc np pl : Nat) (R : Nat → Bool) (hm p3 p4 sz : Nat → Nat) (ly vo : Nat → Int32) (mp : Nat → mvT) (X Y : Nat → Nat → Int) (hb : sv_h) (fs0 : List Value) (hq0 : mfq_ b nc np pl fs0) (MY : myl_ G hb b nc np pl R hm p3 p4 sz ly vo mp X Y) (hXY : ∀ p, p < np → ∀ i, i < sz p → (-10000 ≤ X p i ∧ X p i ≤ 10000) ∧ (-10000 ≤ Y p i ∧ Y p i ≤ 10000)) (hR : ∀ p, p < np → (R p = true ↔ gm_mr (sz p) (fun i => iN (X p i)) (fun i => iN (Y p i)))) (rk : Nat → Nat) (hr : ∀ i, i < pl → rk (p4 i) < rk (p3 i)) (hrn : ∀ c, c < nc → rk c < nc) (OKH : ∀ c, c < nc → mok_ np pl sz mp X Y (dS np pl (rQ R hm) p3 p4 16 c [])) (ri kd : Nat) (l1 l2 x3 x4 x5 x6 : Int32) (RU : mru_ G hb b ri kd l1 l2 x3 x4 x5 x6) (hen : x6 = -1 ∨ 0 ≤ x6) (n0 pg0 : Nat → Nat) (cc0 : Nat → Nat → Int × Int) (cl : Nat) (hcl : cl < nc) (hN1 : oc_n np pl R hm p3 p4 16 cl ≤ 100 → ∀ c, gr_R pl p3 p4 cl c → oc_n np pl R hm p3 p4 16 c ≤ 100) (fv : Int32) (hfv : fv = 0 ∨ fv = 1) (hbw : (kd = 5 ∨ kd = 6) → ∀ i, i < (dS np pl (rQ R hm) p3 p4 16 cl []).length → (bxW mp sz X Y (dS np pl (rQ R hm) p3 p4 16 cl [])) i 0 < (bxW mp sz X Y (dS np pl (rQ R hm) p3 p4 16 cl [])) i 2 ∧ (bxW mp sz X Y (dS np pl (rQ R hm) p3 p4 16 cl [])) i 1 < (bxW mp sz X Y (dS np pl (rQ R hm) p3 p4 16 cl [])) i 3) (g : Nat → Bool) (hg : ∀ d, d < 16 → (g d = true ↔ gr_R pl p3 p4 cl d)) (mo : Value) (h60 : fs0[60]? = some mo) (gt : Nat → Int64) (t41 : ab_J G hb (b + 241) 36048 gt) (hgu : ∀ a, 18000 ≤ a → gt a = gu a) (UF0 : ∃ uf, ab_Z G hb (b + 243) 16 uf) (SC0 : msc_ G hb b n0 pg0 cc0) (hm9 : hb (b + 220) = some (.inr (11, fs0))) (nr : Nat) (hnr : nr ≤ 20) (hri : ri < nr) (h18 : fs0[18]? = some (.int (nI nr))) (nw : Nat) (hnw : nw ≤ 40) (h33 : fs0[33]? = some (.int (nI nw))) (wr wf : Nat → Int64) (w42 : ab_J G hb (b + 242) 320 wf) (hwr : ∀ k, k < nw → ∀ j, j < 8 → wf (8 * k + ab_wc j) = wr (8 * k + j)) (A58 : ∃ f, ab_I G hb (b + 258) 1500 f) (h58x : ∃ q58 : Int32, fs0[58]? = some (.int q58)) : CT G mX13_run [.ref (b + 220), .int (nI ri), .int (nI cl), .int fv] hb z (fun v h1 z1 => z1 = z ∧ ∃ fs1, h1 (b + 220) = some (.inr (11, fs1)) ∧ fs1.length = 71 ∧ (∃ q58 : Int32, fs1[58]? = some (.int q58)) ∧ (∀ a, a ≠ b + 220 → a ≠ b + 241 → ¬ (b + 243 ≤ a ∧ a < b + 259) → h1 a = hb a) ∧ (∃ uf, ab_Z G h1 (b + 243) 16 uf) ∧ msc_ G h1 b n0 pg0 cc0 ∧ (∃ f, ab_I G h1 (b + 258) 1500 f) ∧ ((((oc_n np pl R hm p3 p4 16 cl) ≤ 100 → 1500 < (fiQ fv kd l1 l2 x3 x4 x5 x6 nc np pl R hm p3 p4 ly vo mp sz X Y g cl).length) ∧ v = some (.int 0) ∧ fs1[0]? = some (.int 2) ∧ fsE (0 :: [28, 29, 36, 41, 52, 53, 54, 55, 56, 57, 58, 59, 60, 61, 62]) fs0 fs1 ∧ ∃ gt1, ab_J G h1 (b + 241) 36048 gt1 ∧ ∀ a, 18000 ≤ a → gt1 a = gu a) ∨ ((oc_n np pl R hm p3 p4 16 cl) ≤ 100 ∧ (fiQ fv kd l1 l2 x3 x4 x5 x6 nc np pl R hm p3 p4 ly vo mp sz X Y g cl).length ≤ 1500 ∧ ∃ (ix : List Nat) (gt1 : Nat → Int64), v = some (.int (nI (ddI (decide (fv = 0)) (fiQ fv kd l1 l2 x3 x4 x5 x6 nc np pl R hm p3 p4 ly vo mp sz X Y g cl) ix ix.length).length)) ∧ fs1[0]? = some (.int 0) ∧ fs1[30]? = some (.int (nI (ddI (decide (fv = 0)) (fiQ fv kd l1 l2 x3 x4 x5 x6 nc np pl R hm p3 p4 ly vo mp sz X Y g cl) ix ix.length).length)) ∧ fs1[31]? = some (.int (nI ri)) ∧ fs1[32]? = some (.int fv) ∧ fsE (0 :: 30 :: 31 :: 32 :: [28, 29, 36, 41, 52, 53, 54, 55, 56, 57, 58, 59, 60, 61, 62]) fs0 fs1 ∧ ix.Perm ((List.range (fiQ fv kd l1 l2 x3 x4 x5 x6 nc np pl R hm p3 p4 ly vo mp sz X Y g cl).length).filter (fun x => !cvB wr nw (nI ri) ((fiQ fv kd l1 l2 x3 x4 x5 x6 nc np pl R hm p3 p4 ly vo mp sz X Y g cl).getD x []))) ∧ srt (decide (fv = 0)) (fiQ fv kd l1 l2 x3 x4 x5 x6 nc np pl R hm p3 p4 ly vo mp sz X Y g cl) ix ∧ ab_J G h1 (b + 241) 36048 gt1 ∧ ∀ k9 j9, k9 < (ddI (decide (fv = 0)) (fiQ fv kd l1 l2 x3 x4 x5 x6 nc np pl R hm p3 p4 ly vo mp sz X Y g cl) ix ix.length).length → j9 < 12 → gt1 (18024 + (12 * k9 + j9)) = ((fiQ fv kd l1 l2 x3 x4 x5 x6 nc np pl R hm p3 p4 ly vo mp sz X Y g cl).getD ((ddI (decide (fv = 0)) (fiQ fv kd l1 l2 x3 x4 x5 x6 nc np pl R hm p3 p4 ly vo mp sz X Y g cl) ix ix.length).getD k9 0) []).getD j9 0))) := by
  refine CT.of (by decide +kernel) rfl rfl (Nat.le_of_ble_eq_true rfl) ?_
  have hlen : fs0.length = 71 := hq0.1
  obtain ⟨_, _, _, _, _, _, _, _, _, _, _, yB, yC, yD, yE, yF⟩ := id MY
  obtain ⟨⟨_, s44⟩, ⟨_, s45⟩, ⟨_, s46⟩, ⟨_, s47⟩, ⟨_, s48⟩, sL⟩ := id SC0
  obtain ⟨_, sU⟩ := id UF0
  obtain ⟨_, s58⟩ := id A58
  have hr0 : 0 ≤ nI ri ∧ nI ri < nI nr := ⟨nI_le (a := 0) (Nat.zero_le _) (by omega), Int32.not_le.mp (nI_ge hri (by omega))⟩
  have hc0 : 0 ≤ nI cl ∧ nI cl < nI nc := ⟨nI_le (a := 0) (Nat.zero_le _) (by omega), Int32.not_le.mp (nI_ge hcl (by omega))⟩
  refine v_aload_n dX13_run_0 rfl 0 rfl ?_
  refine v_aload_n dX13_run_1 rfl 0 rfl ?_
  refine v_iload_n dX13_run_2 rfl 1 rfl ?_
  refine v_callVq (M' := mX13_isRule) (n := 1) (As := [_]) (ci := 11) (r := (RX13, TX13, 71)) gX13_run_X13_isRule rfl (by decide +kernel) ⟨(Nat.le_of_ble_eq_true rfl), (Nat.le_of_ble_eq_true rfl)⟩ rfl rfl dX13_run_3 rfl ⟨(Nat.le_of_ble_eq_true rfl), (Nat.le_of_ble_eq_true rfl)⟩ (Nat.le_of_ble_eq_true rfl) (by repeat (first | with_reducible assumption | (with_reducible refine sv_us.trans ?_; exact rfl) | with_reducible refine (sv_un (by omega)).trans ?_)) rfl (m_isRule G hb _ (b + 220) fs0 hlen hm9 (nI ri) (nI nr) h18) (fun v9 h9 y9 hq => v_pq hq ?_)
  refine v_if_eq (tgt := 17) dX13_run_6 (by decide) (fun c_6 => ?_) (fun c_6 => ?_)
  · rw [if_pos hr0] at c_6; exact absurd c_6 (by decide)
  · refine v_aload_n dX13_run_9 rfl 0 rfl ?_
    refine v_iload_n dX13_run_10 rfl 2 rfl ?_
    refine v_callVq (M' := mX13_isCell) (n := 1) (As := [_]) (ci := 11) (r := (RX13, TX13, 71)) gX13_run_X13_isCell rfl (by decide +kernel) ⟨(Nat.le_of_ble_eq_true rfl), (Nat.le_of_ble_eq_true rfl)⟩ rfl rfl dX13_run_11 rfl ⟨(Nat.le_of_ble_eq_true rfl), (Nat.le_of_ble_eq_true rfl)⟩ (Nat.le_of_ble_eq_true rfl) (by repeat (first | with_reducible assumption | (with_reducible refine sv_us.trans ?_; exact rfl) | with_reducible refine (sv_un (by omega)).trans ?_)) rfl (m_isCell G hb _ (b + 220) fs0 hlen hm9 (nI cl) (nI nc) hq0.f_cells) (fun v9 h9 y9 hq => v_pq hq ?_)
    refine v_if_ne (tgt := 21) dX13_run_14 (by decide) (fun c_14 => ?_) (fun c_14 => ?_)
    · refine v_iconst (v := 0) dX13_run_21 (by decide) ?_
      refine v_putf 0 (fs' := _) (ci := 11) (C := RX13) (T := TX13) (N := 71) (ty := .int) rfl iwX13_run_X13 tyX13 tyX13_ok nmX13 (Nat.le_of_ble_eq_true rfl) (by decide +kernel) rfl rfl dX13_run_22 rfl rfl (by repeat (first | with_reducible assumption | (with_reducible refine sv_us.trans ?_; exact rfl) | with_reducible refine (sv_un (by omega)).trans ?_)) (by first | omega | (simp only [List.length_set]; omega)) rfl ?_
      refine v_aload_n dX13_run_25 rfl 0 rfl ?_
      refine v_getf 0 (ci := 11) (C := RX13) (T := TX13) (N := 71) rfl iwX13_run_X13 (Nat.le_of_ble_eq_true rfl) (by decide +kernel) dX13_run_26 (by repeat (first | with_reducible assumption | (with_reducible refine sv_us.trans ?_; exact rfl) | with_reducible refine (sv_un (by omega)).trans ?_)) (by repeat (first | with_reducible assumption | (with_reducible refine (sv_ls (by first | omega | (simp only [List.length_set]; omega))).trans ?_; exact rfl) | with_reducible refine (List.getElem?_set_ne (by decide)).trans ?_)) ?_
      refine v_if_ne (tgt := 63) dX13_run_29 (by decide) (fun c_29 => ?_) (fun c_29 => ?_)
      · exact absurd rfl c_29
      · refine v_aload_n dX13_run_32 rfl 0 rfl ?_
        have hqA := hq0.to (S := (0 :: [28, 29, 36, 41, 52, 53, 54, 55, 56, 57, 58, 59, 60, 61, 62])) (fs1 := (fs0.set 0 (.int 0))) (by rw [List.length_set]; exact hq0.1) (fsE.rf.st (by decide)) (by decide)
        have EA : fsE (0 :: [28, 29, 36, 41, 52, 53, 54, 55, 56, 57, 58, 59, 60, 61, 62]) fs0 (fs0.set 0 (.int 0)) := fsE.rf.st (by decide)
        refine v_aload_n dX13_run_33 rfl 0 rfl ?_
        refine v_iload_n dX13_run_34 rfl 2 rfl ?_
        refine v_callVq (M' := mX13_sizeOf) (n := 1) (As := [_]) (ci := 11) (r := (RX13, TX13, 71)) gX13_run_X13_sizeOf rfl (by decide +kernel) ⟨(Nat.le_of_ble_eq_true rfl), (Nat.le_of_ble_eq_true rfl)⟩ rfl rfl dX13_run_35 rfl ⟨(Nat.le_of_ble_eq_true rfl), (Nat.le_of_ble_eq_true rfl)⟩ (Nat.le_of_ble_eq_true rfl) (by repeat (first | with_reducible assumption | (with_reducible refine sv_us.trans ?_; exact rfl) | with_reducible refine (sv_un (by omega)).trans ?_)) rfl (m_sizeOfL G _ b nc np pl R hm p3 p4 sz ly vo mp X Y _ (fs0.set 0 (.int 0)) hqA sv_us (MY.kp (fun a p1 p2 => (sv_un (by omega)))) hXY hR rk hr hrn cl hcl ⟨_, (sv_un (by omega)).trans s48⟩) (fun v9 h1 z1 hq9 => ?_)
        obtain ⟨rfl, rfl, SZ, u1⟩ := hq9
        have B1 : ∀ a, a ≠ b + 220 → a ≠ b + 248 → h1 a = hb a := fun a p1 p2 => (u1 a p2).trans (sv_un p1)
        have hm1 := (u1 (b + 220) (by omega)).trans sv_us
        have SC1 : msc_ G h1 b n0 pg0 cc0 := (by obtain ⟨fz, z8, z9⟩ := SZ; exact ⟨⟨_, (B1 _ (by omega) (by omega)).trans s44⟩, ⟨_, (B1 _ (by omega) (by omega)).trans s45⟩, ⟨_, (B1 _ (by omega) (by omega)).trans s46⟩, ⟨_, (B1 _ (by omega) (by omega)).trans s47⟩, ⟨fz, z8⟩, sL.kp (fun a p1 p2 => B1 a (by omega) (by omega))⟩)
        refine v_ldc2 (v := (100)) (by decide +kernel) dX13_run_38 ?_
        refine v_lcmp_gt (tgt := 55) dX13_run_41 dX13_run_42 (by decide) (fun c_42 => ?_) (fun c_42 => ?_)
        · refine v_iconst (v := 2) dX13_run_55 (by decide) ?_
          refine v_goto (tgt := 60) dX13_run_56 (by decide) ?_
          refine v_putf 0 (fs' := _) (ci := 11) (C := RX13) (T := TX13) (N := 71) (ty := .int) rfl iwX13_run_X13 tyX13 tyX13_ok nmX13 (Nat.le_of_ble_eq_true rfl) (by decide +kernel) rfl rfl dX13_run_60 rfl rfl (by repeat (first | with_reducible assumption | (with_reducible refine sv_us.trans ?_; exact rfl) | with_reducible refine (sv_un (by omega)).trans ?_)) (by first | omega | (simp only [List.length_set]; omega)) rfl ?_
          refine v_aload_n dX13_run_63 rfl 0 rfl ?_
          refine v_getf 0 (ci := 11) (C := RX13) (T := TX13) (N := 71) rfl iwX13_run_X13 (Nat.le_of_ble_eq_true rfl) (by decide +kernel) dX13_run_64 (by repeat (first | with_reducible assumption | (with_reducible refine sv_us.trans ?_; exact rfl) | with_reducible refine (sv_un (by omega)).trans ?_)) (by repeat (first | with_reducible assumption | (with_reducible refine (sv_ls (by first | omega | (simp only [List.length_set]; omega))).trans ?_; exact rfl) | with_reducible refine (List.getElem?_set_ne (by decide)).trans ?_)) ?_
          refine v_if_le (tgt := 72) dX13_run_67 (by decide) (fun c_67 => ?_) (fun c_67 => ?_)
          · first
              | exact absurd (show (2 : Int32) ≤ 0 from c_67) (by decide)
              | (refine v_sub (L' := [(3, _), (2, _), (1, _), (0, _)]) [3, 2, 1, 0] rfl ?_
                 have c9 := c_52
                 have sm : (fiQ fv kd l1 l2 x3 x4 x5 x6 nc np pl R hm p3 p4 ly vo mp sz X Y g cl).length ≤ 1500 ∧ E1 = (fiQ fv kd l1 l2 x3 x4 x5 x6 nc np pl R hm p3 p4 ly vo mp sz X Y g cl) := (by rcases dB with ⟨q1, q2, q3⟩ | ⟨q1, q3⟩; exact ⟨q1, q2⟩; exact absurd q3 c9)
                 rw [sm.2] at d9
                 refine t_ru72 G _ _ b nc np pl _ (fs2.set 0 (.int 0)) (hq2.to (S := (0 :: [28, 29, 36, 41, 52, 53, 54, 55, 56, 57, 58, 59, 60, 61, 62])) (by rw [List.length_set]; exact hlen2) (fsE.rf.st (by decide)) (by decide)) sv_us ri cl fv hfv ((List.getElem?_set_ne (by decide)).trans d5) _ sm.1 (d9.kp (sv_un (by omega)) (List.getElem?_set_ne (by decide)) (List.getElem?_set_ne (by decide))) nw hnw ((List.getElem?_set_ne (by decide)).trans ((E2 33 (by decide)).trans h33)) ((List.getElem?_set_ne (by decide)).trans d4) wr wf ((sv_un (by omega)).trans ((B2 _ (by omega) (by omega) (by omega)).trans w42)) hwr ⟨_, (sv_un (by omega)).trans ((B2 _ (by omega) (by omega) (by omega)).trans s58)⟩ (fun h3 ix gt3 v1 v2 v3 v4 v5 v6 v7 => ?_)
                 refine ⟨rfl, _, v1, by rw [List.length_set, List.length_set, List.length_set, List.length_set]; exact hlen2, ⟨_, (List.getElem?_set_ne (by decide)).trans ((List.getElem?_set_ne (by decide)).trans ((List.getElem?_set_ne (by decide)).trans ((List.getElem?_set_ne (by decide)).trans d4)))⟩, fun a p1 p2 p3_ => (v7 a p1 p2 (by omega)).trans ((sv_un p1).trans (B2 a p1 p2 (by omega))), (by obtain ⟨uf, q⟩ := d7; exact ⟨uf, (v7 _ (by omega) (by omega) (by omega)).trans ((sv_un (by omega)).trans q)⟩), d8.kp (fun a p1 p2 => (v7 a (by omega) (by omega) (by omega)).trans (sv_un (by omega))), v6, Or.inr ⟨n100, sm.1, ix, gt3, rfl, ?_, ?_, ?_, ?_, ?_, v2, v3, v4, v5⟩⟩
                 · exact (List.getElem?_set_ne (by decide)).trans ((List.getElem?_set_ne (by decide)).trans ((List.getElem?_set_ne (by decide)).trans (sv_ls (by omega))))
                 · exact (List.getElem?_set_ne (by decide)).trans ((List.getElem?_set_ne (by decide)).trans (sv_ls (by rw [List.length_set]; omega)))
                 · exact (List.getElem?_set_ne (by decide)).trans (sv_ls (by rw [List.length_set, List.length_set]; omega))
                 · exact sv_ls (by rw [List.length_set, List.length_set, List.length_set]; omega)
                 · exact ((((E2.up (T := (0 :: 30 :: 31 :: 32 :: [28, 29, 36, 41, 52, 53, 54, 55, 56, 57, 58, 59, 60, 61, 62])) (by decide)).st (by decide)).st (by decide)).st (by decide)).st (by decide))
          · refine v_iconst (v := 0) dX13_run_70 (by decide) ?_
            exact v_iret rfl dX13_run_71 (Nat.le_of_ble_eq_true rfl) (Nat.le_of_ble_eq_true rfl) rfl (by
                  first
                    | exact absurd (show (0 : Int32) ≤ 0 by decide) c_67
                    | (have c9 := c_52
                       have big : 1500 < (fiQ fv kd l1 l2 x3 x4 x5 x6 nc np pl R hm p3 p4 ly vo mp sz X Y g cl).length := (by rcases dB with ⟨q1, q2, q3⟩ | ⟨q1, q3⟩; exact absurd c9 (by rw [q3]; decide); exact q1)
                       obtain ⟨_, _, gt1, g41, _, g18⟩ := d9
                       exact ⟨rfl, _, sv_us, by rw [List.length_set]; exact hlen2, ⟨_, (List.getElem?_set_ne (by decide)).trans d4⟩, fun a p1 p2 p3_ => (sv_un p1).trans (B2 a p1 p2 (by omega)), (by obtain ⟨uf, q⟩ := d7; exact ⟨uf, (sv_un (by omega)).trans q⟩), d8.kp (fun a p1 p2 => sv_un (by omega)), ⟨_, (sv_un (by omega)).trans ((B2 _ (by omega) (by omega) (by omega)).trans s58)⟩, Or.inl ⟨fun _ => big, rfl, sv_ls (by omega), E2.st (by decide), gt1, (sv_un (by omega)).trans g41, g18⟩⟩)
                    | (have big : ¬ (oc_n np pl R hm p3 p4 16 cl) ≤ 100 := lN_101 c_42
                       exact ⟨rfl, _, sv_us, by rw [List.length_set, List.length_set]; exact hlen, (by obtain ⟨q, e⟩ := h58x; exact ⟨q, (List.getElem?_set_ne (by decide)).trans ((List.getElem?_set_ne (by decide)).trans e)⟩), fun a p1 p2 p3_ => (sv_un p1).trans (B1 a p1 (by omega)), ⟨_, (sv_un (by omega)).trans ((B1 _ (by omega) (by omega)).trans sU)⟩, SC1.kp (fun a p1 p2 => sv_un (by omega)), ⟨_, (sv_un (by omega)).trans ((B1 _ (by omega) (by omega)).trans s58)⟩, Or.inl ⟨fun q => absurd q big, rfl, sv_ls (by rw [List.length_set]; omega), EA.st (by decide), gt, (sv_un (by omega)).trans ((B1 _ (by omega) (by omega)).trans t41), hgu⟩⟩))
        · refine v_aload_n dX13_run_45 rfl 0 rfl ?_
          have n100 : (oc_n np pl R hm p3 p4 16 cl) ≤ 100 := lN_100 c_42
          refine v_iload_n dX13_run_46 rfl 1 rfl ?_
          refine v_iload_n dX13_run_47 rfl 2 rfl ?_
          refine v_iload_n dX13_run_48 rfl 3 rfl ?_
          refine v_callVq (M' := mX13_find) (n := 3) (As := [_, _, _]) (ci := 11) (r := (RX13, TX13, 71)) gX13_run_X13_find rfl (by decide +kernel) ⟨(Nat.le_of_ble_eq_true rfl), (Nat.le_of_ble_eq_true rfl)⟩ rfl rfl dX13_run_49 rfl ⟨(Nat.le_of_ble_eq_true rfl), (Nat.le_of_ble_eq_true rfl)⟩ (Nat.le_of_ble_eq_true rfl) (by repeat (first | with_reducible assumption | (with_reducible refine sv_us.trans ?_; exact rfl) | with_reducible refine (sv_un (by omega)).trans ?_)) rfl (m_find G _ b nc np pl R hm p3 p4 sz ly vo mp X Y h1 (fs0.set 0 (.int 0)) hqA (MY.kp (fun a p1 p2 => B1 a (by omega) (by omega))) hXY hR rk hr hrn OKH ri kd l1 l2 x3 x4 x5 x6 (RU.kp (fun a p1 p2 => B1 a (by omega) (by omega))) hen n0 pg0 cc0 cl hcl (hN1 n100) fv hfv hbw g hg mo ((List.getElem?_set_ne (by decide)).trans h60) gt ((B1 _ (by omega) (by omega)).trans t41) hgu ⟨_, (B1 _ (by omega) (by omega)).trans sU⟩ SC1 SZ hm1) (fun v9 h2 z2 hq9 => ?_)
          obtain ⟨rfl, fs2, d1, d2, d3, d4, d5, d6, d7, d8, dS_, E1, d9, dA⟩ := hq9
          have hq2 := hqA.to d2 d3 (by decide)
          have hlen2 : fs2.length = 71 := d2
          have E2 : fsE (0 :: [28, 29, 36, 41, 52, 53, 54, 55, 56, 57, 58, 59, 60, 61, 62]) fs0 fs2 := EA.tr (d3.up (by decide))
          have B2 : ∀ a, a ≠ b + 220 → a ≠ b + 241 → ¬ (b + 243 ≤ a ∧ a < b + 258) → h2 a = hb a := fun a p1 p2 p3_ => (d6 a p1 p2 p3_).trans (B1 a p1 (by omega))
          obtain ⟨v8, hv8, dB⟩ : ∃ v8 : Int32, v9 = some (.int v8) ∧ (((fiQ fv kd l1 l2 x3 x4 x5 x6 nc np pl R hm p3 p4 ly vo mp sz X Y g cl).length ≤ 1500 ∧ E1 = (fiQ fv kd l1 l2 x3 x4 x5 x6 nc np pl R hm p3 p4 ly vo mp sz X Y g cl) ∧ v8 = 1) ∨ (1500 < (fiQ fv kd l1 l2 x3 x4 x5 x6 nc np pl R hm p3 p4 ly vo mp sz X Y g cl).length ∧ v8 = 0)) := (by rcases dA with ⟨q1, q2, q3⟩ | ⟨q1, q3⟩; exact ⟨1, q3, Or.inl ⟨q1, q2, rfl⟩⟩; exact ⟨0, q3, Or.inr ⟨q1, rfl⟩⟩)
          subst hv8
          refine v_if_ne (tgt := 59) dX13_run_52 (by decide) (fun c_52 => ?_) (fun c_52 => ?_)
          · refine v_iconst (v := 0) dX13_run_59 (by decide) ?_
            refine v_putf 0 (fs' := _) (ci := 11) (C := RX13) (T := TX13) (N := 71) (ty := .int) rfl iwX13_run_X13 tyX13 tyX13_ok nmX13 (Nat.le_of_ble_eq_true rfl) (by decide +kernel) rfl rfl dX13_run_60 rfl rfl (by repeat (first | with_reducible assumption | (with_reducible refine sv_us.trans ?_; exact rfl) | with_reducible refine (sv_un (by omega)).trans ?_)) (by first | omega | (simp only [List.length_set]; omega)) rfl ?_
            refine v_aload_n dX13_run_63 rfl 0 rfl ?_
            refine v_getf 0 (ci := 11) (C := RX13) (T := TX13) (N := 71) rfl iwX13_run_X13 (Nat.le_of_ble_eq_true rfl) (by decide +kernel) dX13_run_64 (by repeat (first | with_reducible assumption | (with_reducible refine sv_us.trans ?_; exact rfl) | with_reducible refine (sv_un (by omega)).trans ?_)) (by repeat (first | with_reducible assumption | (with_reducible refine (sv_ls (by first | omega | (simp only [List.length_set]; omega))).trans ?_; exact rfl) | with_reducible refine (List.getElem?_set_ne (by decide)).trans ?_)) ?_
            refine v_if_le (tgt := 72) dX13_run_67 (by decide) (fun c_67 => ?_) (fun c_67 => ?_)
            · first
                | exact absurd (show (2 : Int32) ≤ 0 from c_67) (by decide)
                | (refine v_sub (L' := [(3, _), (2, _), (1, _), (0, _)]) [3, 2, 1, 0] rfl ?_
                   have c9 := c_52
                   have sm : (fiQ fv kd l1 l2 x3 x4 x5 x6 nc np pl R hm p3 p4 ly vo mp sz X Y g cl).length ≤ 1500 ∧ E1 = (fiQ fv kd l1 l2 x3 x4 x5 x6 nc np pl R hm p3 p4 ly vo mp sz X Y g cl) := (by rcases dB with ⟨q1, q2, q3⟩ | ⟨q1, q3⟩; exact ⟨q1, q2⟩; exact absurd q3 c9)
                   rw [sm.2] at d9
                   refine t_ru72 G _ _ b nc np pl _ (fs2.set 0 (.int 0)) (hq2.to (S := (0 :: [28, 29, 36, 41, 52, 53, 54, 55, 56, 57, 58, 59, 60, 61, 62])) (by rw [List.length_set]; exact hlen2) (fsE.rf.st (by decide)) (by decide)) sv_us ri cl fv hfv ((List.getElem?_set_ne (by decide)).trans d5) _ sm.1 (d9.kp (sv_un (by omega)) (List.getElem?_set_ne (by decide)) (List.getElem?_set_ne (by decide))) nw hnw ((List.getElem?_set_ne (by decide)).trans ((E2 33 (by decide)).trans h33)) ((List.getElem?_set_ne (by decide)).trans d4) wr wf ((sv_un (by omega)).trans ((B2 _ (by omega) (by omega) (by omega)).trans w42)) hwr ⟨_, (sv_un (by omega)).trans ((B2 _ (by omega) (by omega) (by omega)).trans s58)⟩ (fun h3 ix gt3 v1 v2 v3 v4 v5 v6 v7 => ?_)
                   refine ⟨rfl, _, v1, by rw [List.length_set, List.length_set, List.length_set, List.length_set]; exact hlen2, ⟨_, (List.getElem?_set_ne (by decide)).trans ((List.getElem?_set_ne (by decide)).trans ((List.getElem?_set_ne (by decide)).trans ((List.getElem?_set_ne (by decide)).trans d4)))⟩, fun a p1 p2 p3_ => (v7 a p1 p2 (by omega)).trans ((sv_un p1).trans (B2 a p1 p2 (by omega))), (by obtain ⟨uf, q⟩ := d7; exact ⟨uf, (v7 _ (by omega) (by omega) (by omega)).trans ((sv_un (by omega)).trans q)⟩), d8.kp (fun a p1 p2 => (v7 a (by omega) (by omega) (by omega)).trans (sv_un (by omega))), v6, Or.inr ⟨n100, sm.1, ix, gt3, rfl, ?_, ?_, ?_, ?_, ?_, v2, v3, v4, v5⟩⟩
                   · exact (List.getElem?_set_ne (by decide)).trans ((List.getElem?_set_ne (by decide)).trans ((List.getElem?_set_ne (by decide)).trans (sv_ls (by omega))))
                   · exact (List.getElem?_set_ne (by decide)).trans ((List.getElem?_set_ne (by decide)).trans (sv_ls (by rw [List.length_set]; omega)))
                   · exact (List.getElem?_set_ne (by decide)).trans (sv_ls (by rw [List.length_set, List.length_set]; omega))
                   · exact sv_ls (by rw [List.length_set, List.length_set, List.length_set]; omega)
                   · exact ((((E2.up (T := (0 :: 30 :: 31 :: 32 :: [28, 29, 36, 41, 52, 53, 54, 55, 56, 57, 58, 59, 60, 61, 62])) (by decide)).st (by decide)).st (by decide)).st (by decide)).st (by decide))
            · refine v_iconst (v := 0) dX13_run_70 (by decide) ?_
              exact v_iret rfl dX13_run_71 (Nat.le_of_ble_eq_true rfl) (Nat.le_of_ble_eq_true rfl) rfl (by
                    first
                      | exact absurd (show (0 : Int32) ≤ 0 by decide) c_67
                      | (have c9 := c_52
                         have big : 1500 < (fiQ fv kd l1 l2 x3 x4 x5 x6 nc np pl R hm p3 p4 ly vo mp sz X Y g cl).length := (by rcases dB with ⟨q1, q2, q3⟩ | ⟨q1, q3⟩; exact absurd c9 (by rw [q3]; decide); exact q1)
                         obtain ⟨_, _, gt1, g41, _, g18⟩ := d9
                         exact ⟨rfl, _, sv_us, by rw [List.length_set]; exact hlen2, ⟨_, (List.getElem?_set_ne (by decide)).trans d4⟩, fun a p1 p2 p3_ => (sv_un p1).trans (B2 a p1 p2 (by omega)), (by obtain ⟨uf, q⟩ := d7; exact ⟨uf, (sv_un (by omega)).trans q⟩), d8.kp (fun a p1 p2 => sv_un (by omega)), ⟨_, (sv_un (by omega)).trans ((B2 _ (by omega) (by omega) (by omega)).trans s58)⟩, Or.inl ⟨fun _ => big, rfl, sv_ls (by omega), E2.st (by decide), gt1, (sv_un (by omega)).trans g41, g18⟩⟩)
                      | (have big : ¬ (oc_n np pl R hm p3 p4 16 cl) ≤ 100 := lN_101 c_42
                         exact ⟨rfl, _, sv_us, by rw [List.length_set, List.length_set]; exact hlen, (by obtain ⟨q, e⟩ := h58x; exact ⟨q, (List.getElem?_set_ne (by decide)).trans ((List.getElem?_set_ne (by decide)).trans e)⟩), fun a p1 p2 p3_ => (sv_un p1).trans (B1 a p1 (by omega)), ⟨_, (sv_un (by omega)).trans ((B1 _ (by omega) (by omega)).trans sU)⟩, SC1.kp (fun a p1 p2 => sv_un (by omega)), ⟨_, (sv_un (by omega)).trans ((B1 _ (by omega) (by omega)).trans s58)⟩, Or.inl ⟨fun q => absurd q big, rfl, sv_ls (by rw [List.length_set]; omega), EA.st (by decide), gt, (sv_un (by omega)).trans ((B1 _ (by omega) (by omega)).trans t41), hgu⟩⟩))
          · refine v_iconst (v := 2) dX13_run_55 (by decide) ?_
            refine v_goto (tgt := 60) dX13_run_56 (by decide) ?_
            refine v_putf 0 (fs' := _) (ci := 11) (C := RX13) (T := TX13) (N := 71) (ty := .int) rfl iwX13_run_X13 tyX13 tyX13_ok nmX13 (Nat.le_of_ble_eq_true rfl) (by decide +kernel) rfl rfl dX13_run_60 rfl rfl (by repeat (first | with_reducible assumption | (with_reducible refine sv_us.trans ?_; exact rfl) | with_reducible refine (sv_un (by omega)).trans ?_)) (by first | omega | (simp only [List.length_set]; omega)) rfl ?_
            refine v_aload_n dX13_run_63 rfl 0 rfl ?_
            refine v_getf 0 (ci := 11) (C := RX13) (T := TX13) (N := 71) rfl iwX13_run_X13 (Nat.le_of_ble_eq_true rfl) (by decide +kernel) dX13_run_64 (by repeat (first | with_reducible assumption | (with_reducible refine sv_us.trans ?_; exact rfl) | with_reducible refine (sv_un (by omega)).trans ?_)) (by repeat (first | with_reducible assumption | (with_reducible refine (sv_ls (by first | omega | (simp only [List.length_set]; omega))).trans ?_; exact rfl) | with_reducible refine (List.getElem?_set_ne (by decide)).trans ?_)) ?_
            refine v_if_le (tgt := 72) dX13_run_67 (by decide) (fun c_67 => ?_) (fun c_67 => ?_)
            · first
                | exact absurd (show (2 : Int32) ≤ 0 from c_67) (by decide)
                | (refine v_sub (L' := [(3, _), (2, _), (1, _), (0, _)]) [3, 2, 1, 0] rfl ?_
                   have c9 := c_52
                   have sm : (fiQ fv kd l1 l2 x3 x4 x5 x6 nc np pl R hm p3 p4 ly vo mp sz X Y g cl).length ≤ 1500 ∧ E1 = (fiQ fv kd l1 l2 x3 x4 x5 x6 nc np pl R hm p3 p4 ly vo mp sz X Y g cl) := (by rcases dB with ⟨q1, q2, q3⟩ | ⟨q1, q3⟩; exact ⟨q1, q2⟩; exact absurd q3 c9)
                   rw [sm.2] at d9
                   refine t_ru72 G _ _ b nc np pl _ (fs2.set 0 (.int 0)) (hq2.to (S := (0 :: [28, 29, 36, 41, 52, 53, 54, 55, 56, 57, 58, 59, 60, 61, 62])) (by rw [List.length_set]; exact hlen2) (fsE.rf.st (by decide)) (by decide)) sv_us ri cl fv hfv ((List.getElem?_set_ne (by decide)).trans d5) _ sm.1 (d9.kp (sv_un (by omega)) (List.getElem?_set_ne (by decide)) (List.getElem?_set_ne (by decide))) nw hnw ((List.getElem?_set_ne (by decide)).trans ((E2 33 (by decide)).trans h33)) ((List.getElem?_set_ne (by decide)).trans d4) wr wf ((sv_un (by omega)).trans ((B2 _ (by omega) (by omega) (by omega)).trans w42)) hwr ⟨_, (sv_un (by omega)).trans ((B2 _ (by omega) (by omega) (by omega)).trans s58)⟩ (fun h3 ix gt3 v1 v2 v3 v4 v5 v6 v7 => ?_)
                   refine ⟨rfl, _, v1, by rw [List.length_set, List.length_set, List.length_set, List.length_set]; exact hlen2, ⟨_, (List.getElem?_set_ne (by decide)).trans ((List.getElem?_set_ne (by decide)).trans ((List.getElem?_set_ne (by decide)).trans ((List.getElem?_set_ne (by decide)).trans d4)))⟩, fun a p1 p2 p3_ => (v7 a p1 p2 (by omega)).trans ((sv_un p1).trans (B2 a p1 p2 (by omega))), (by obtain ⟨uf, q⟩ := d7; exact ⟨uf, (v7 _ (by omega) (by omega) (by omega)).trans ((sv_un (by omega)).trans q)⟩), d8.kp (fun a p1 p2 => (v7 a (by omega) (by omega) (by omega)).trans (sv_un (by omega))), v6, Or.inr ⟨n100, sm.1, ix, gt3, rfl, ?_, ?_, ?_, ?_, ?_, v2, v3, v4, v5⟩⟩
                   · exact (List.getElem?_set_ne (by decide)).trans ((List.getElem?_set_ne (by decide)).trans ((List.getElem?_set_ne (by decide)).trans (sv_ls (by omega))))
                   · exact (List.getElem?_set_ne (by decide)).trans ((List.getElem?_set_ne (by decide)).trans (sv_ls (by rw [List.length_set]; omega)))
                   · exact (List.getElem?_set_ne (by decide)).trans (sv_ls (by rw [List.length_set, List.length_set]; omega))
                   · exact sv_ls (by rw [List.length_set, List.length_set, List.length_set]; omega)
                   · exact ((((E2.up (T := (0 :: 30 :: 31 :: 32 :: [28, 29, 36, 41, 52, 53, 54, 55, 56, 57, 58, 59, 60, 61, 62])) (by decide)).st (by decide)).st (by decide)).st (by decide)).st (by decide))
            · refine v_iconst (v := 0) dX13_run_70 (by decide) ?_
              exact v_iret rfl dX13_run_71 (Nat.le_of_ble_eq_true rfl) (Nat.le_of_ble_eq_true rfl) rfl (by
                    first
                      | exact absurd (show (0 : Int32) ≤ 0 by decide) c_67
                      | (have c9 := c_52
                         have big : 1500 < (fiQ fv kd l1 l2 x3 x4 x5 x6 nc np pl R hm p3 p4 ly vo mp sz X Y g cl).length := (by rcases dB with ⟨q1, q2, q3⟩ | ⟨q1, q3⟩; exact absurd c9 (by rw [q3]; decide); exact q1)
                         obtain ⟨_, _, gt1, g41, _, g18⟩ := d9
                         exact ⟨rfl, _, sv_us, by rw [List.length_set]; exact hlen2, ⟨_, (List.getElem?_set_ne (by decide)).trans d4⟩, fun a p1 p2 p3_ => (sv_un p1).trans (B2 a p1 p2 (by omega)), (by obtain ⟨uf, q⟩ := d7; exact ⟨uf, (sv_un (by omega)).trans q⟩), d8.kp (fun a p1 p2 => sv_un (by omega)), ⟨_, (sv_un (by omega)).trans ((B2 _ (by omega) (by omega) (by omega)).trans s58)⟩, Or.inl ⟨fun _ => big, rfl, sv_ls (by omega), E2.st (by decide), gt1, (sv_un (by omega)).trans g41, g18⟩⟩)
                      | (have big : ¬ (oc_n np pl R hm p3 p4 16 cl) ≤ 100 := lN_101 c_42
                         exact ⟨rfl, _, sv_us, by rw [List.length_set, List.length_set]; exact hlen, (by obtain ⟨q, e⟩ := h58x; exact ⟨q, (List.getElem?_set_ne (by decide)).trans ((List.getElem?_set_ne (by decide)).trans e)⟩), fun a p1 p2 p3_ => (sv_un p1).trans (B1 a p1 (by omega)), ⟨_, (sv_un (by omega)).trans ((B1 _ (by omega) (by omega)).trans sU)⟩, SC1.kp (fun a p1 p2 => sv_un (by omega)), ⟨_, (sv_un (by omega)).trans ((B1 _ (by omega) (by omega)).trans s58)⟩, Or.inl ⟨fun q => absurd q big, rfl, sv_ls (by rw [List.length_set]; omega), EA.st (by decide), gt, (sv_un (by omega)).trans ((B1 _ (by omega) (by omega)).trans t41), hgu⟩⟩))
    · rw [if_pos hc0] at c_14; exact absurd c_14 (by decide)

end GU
