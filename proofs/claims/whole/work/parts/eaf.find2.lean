section GU
variable {gu : Nat → Int64}
/-- all that is told of a rule, cells that g takes -/
def fiQ (fv : Int32) (kd : Nat) (l1 l2 x3 x4 x5 x6 : Int32) (nc np pl : Nat) (R : Nat → Bool) (hm p3 p4 : Nat → Nat) (ly vo : Nat → Int32) (mp : Nat → mvT) (sz : Nat → Nat) (X Y : Nat → Nat → Int) (g : Nat → Bool) (cl : Nat) : List (List Int64) := if kd = 5 ∨ kd = 6 then whQ kd x3 cl (dS np pl (rQ R hm) p3 p4 16 cl []).length (arW (fun p => arM (crR (fun k => (X p k, Y p k)) (sz p)) (sz p)) ly l1 (dS np pl (rQ R hm) p3 p4 16 cl []) (dS np pl (rQ R hm) p3 p4 16 cl []).length) (cnS ly l1 (dS np pl (rQ R hm) p3 p4 16 cl []) (dS np pl (rQ R hm) p3 p4 16 cl []).length) (spn (bxW mp sz X Y (dS np pl (rQ R hm) p3 p4 16 cl [])) (dS np pl (rQ R hm) p3 p4 16 cl []).length) else (List.range nc).flatMap (fun c => if (fv ≠ 0 ∧ c = cl) ∨ (fv = 0 ∧ g c = true) then goQ fv kd l1 l2 x3 x4 x5 x6 p4 ly vo mp sz X Y c (dS np pl (rQ R hm) p3 p4 16 c []) else [])
theorem fM_eq9 {β : Type} {f g : Nat → List β} (n : Nat) (H : ∀ x, x < n → f x = g x) : (List.range n).flatMap f = (List.range n).flatMap g := by
  induction n with
  | zero => rfl
  | succ n ih => rw [rgm_s, rgm_s, ih (fun x hx => H x (by omega)), H n (Nat.lt_succ_self n)]
set_option maxHeartbeats 4000000 in
set_option maxRecDepth 100000 in
theorem m_find (G : sv_G) (z b nc np pl : Nat) (R : Nat → Bool) (hm p3 p4 sz : Nat → Nat) (ly vo : Nat → Int32) (mp : Nat → mvT) (X Y : Nat → Nat → Int) (hb : sv_h) (fs0 : List Value) (hq0 : mfq_ b nc np pl fs0) (MY : myl_ G hb b nc np pl R hm p3 p4 sz ly vo mp X Y) (hXY : ∀ p, p < np → ∀ i, i < sz p → (-10000 ≤ X p i ∧ X p i ≤ 10000) ∧ (-10000 ≤ Y p i ∧ Y p i ≤ 10000)) (hR : ∀ p, p < np → (R p = true ↔ gm_mr (sz p) (fun i => iN (X p i)) (fun i => iN (Y p i)))) (rk : Nat → Nat) (hr : ∀ i, i < pl → rk (p4 i) < rk (p3 i)) (hrn : ∀ c, c < nc → rk c < nc) (OKH : ∀ c, c < nc → mok_ np pl sz mp X Y (dS np pl (rQ R hm) p3 p4 16 c [])) (ri kd : Nat) (l1 l2 x3 x4 x5 x6 : Int32) (RU : mru_ G hb b ri kd l1 l2 x3 x4 x5 x6) (hen : x6 = -1 ∨ 0 ≤ x6) (n0 pg0 : Nat → Nat) (cc0 : Nat → Nat → Int × Int) (cl : Nat) (hcl : cl < nc) (hN1 : ∀ c, gr_R pl p3 p4 cl c → oc_n np pl R hm p3 p4 16 c ≤ 100) (fv : Int32) (hfv : fv = 0 ∨ fv = 1) (hbw : (kd = 5 ∨ kd = 6) → ∀ i, i < (dS np pl (rQ R hm) p3 p4 16 cl []).length → (bxW mp sz X Y (dS np pl (rQ R hm) p3 p4 16 cl [])) i 0 < (bxW mp sz X Y (dS np pl (rQ R hm) p3 p4 16 cl [])) i 2 ∧ (bxW mp sz X Y (dS np pl (rQ R hm) p3 p4 16 cl [])) i 1 < (bxW mp sz X Y (dS np pl (rQ R hm) p3 p4 16 cl [])) i 3) (g : Nat → Bool) (hg : ∀ d, d < 16 → (g d = true ↔ gr_R pl p3 p4 cl d)) (mo : Value) (h60 : fs0[60]? = some mo) (gt : Nat → Int64) (t41 : ab_J G hb (b + 241) 36048 gt) (hgu : ∀ a, 18000 ≤ a → gt a = gu a) (UF0 : ∃ uf, ab_Z G hb (b + 243) 16 uf) (SC0 : msc_ G hb b n0 pg0 cc0) (SZ0 : szc_ G hb b nc np pl R hm p3 p4) (hm9 : hb (b + 220) = some (.inr (11, fs0))) : CT G mX13_find [.ref (b + 220), .int (nI ri), .int (nI cl), .int fv] hb z (fun v h1 z1 => z1 = z ∧ ∃ fs1, h1 (b + 220) = some (.inr (11, fs1)) ∧ fs1.length = 71 ∧ fsE [28, 29, 36, 41, 52, 53, 54, 55, 56, 57, 58, 59, 60, 61, 62] fs0 fs1 ∧ fs1[58]? = some (.int (nI ri)) ∧ fs1[59]? = some (.int fv) ∧ (∀ a, a ≠ b + 220 → a ≠ b + 241 → ¬ (b + 243 ≤ a ∧ a < b + 258) → h1 a = hb a) ∧ (∃ uf, ab_Z G h1 (b + 243) 16 uf) ∧ msc_ G h1 b n0 pg0 cc0 ∧ szc_ G h1 b nc np pl R hm p3 p4 ∧ ∃ E1, mT_ gu G h1 b fs1 E1 ∧ (((fiQ fv kd l1 l2 x3 x4 x5 x6 nc np pl R hm p3 p4 ly vo mp sz X Y g cl).length ≤ 1500 ∧ E1 = (fiQ fv kd l1 l2 x3 x4 x5 x6 nc np pl R hm p3 p4 ly vo mp sz X Y g cl) ∧ v = some (.int 1)) ∨ (1500 < (fiQ fv kd l1 l2 x3 x4 x5 x6 nc np pl R hm p3 p4 ly vo mp sz X Y g cl).length ∧ v = some (.int 0)))) := by
  refine CT.of (by decide +kernel) rfl rfl (Nat.le_of_ble_eq_true rfl) ?_
  have hlen : fs0.length = 71 := hq0.1
  obtain ⟨_, _, _, _, _, _, ⟨g6, y6, y6a⟩, ⟨g7, y7, y7a⟩, _, _, _, yB, yC, yD, yE, yF⟩ := id MY
  obtain ⟨r0, r1, ⟨j33, r33, r33a⟩, _, _, _, _, _, _⟩ := id RU
  obtain ⟨u9, UF9⟩ := id UF0
  have hqF := hq0.to (S := [28, 29, 36, 41, 52, 53, 54, 55, 56, 57, 58, 59, 60, 61, 62]) (fs1 := ((((fs0.set 58 (.int (nI ri))).set 59 (.int fv)).set 28 (.int 0)).set 29 (.int 0))) (by rw [List.length_set, List.length_set, List.length_set, List.length_set]; exact hq0.1) (((((fsE.rf (S := [28, 29, 36, 41, 52, 53, 54, 55, 56, 57, 58, 59, 60, 61, 62]) (fs := fs0)).st (k := 58) (by decide)).st (k := 59) (by decide)).st (k := 28) (by decide)).st (k := 29) (by decide)) (by decide)
  have f_kind := hq0.f_kind
  refine v_aload_n dX13_find_0 rfl 0 rfl ?_
  refine v_iload_n dX13_find_1 rfl 1 rfl ?_
  refine v_putf 58 (fs' := _) (ci := 11) (C := RX13) (T := TX13) (N := 71) (ty := .int) rfl iwX13_find_X13 tyX13 tyX13_ok nmX13 (Nat.le_of_ble_eq_true rfl) (by decide +kernel) rfl rfl dX13_find_2 rfl rfl (by repeat (first | with_reducible assumption | (with_reducible refine sv_us.trans ?_; exact rfl) | with_reducible refine (sv_un (by omega)).trans ?_)) (by first | omega | (simp only [List.length_set]; omega)) rfl ?_
  refine v_aload_n dX13_find_5 rfl 0 rfl ?_
  refine v_iload_n dX13_find_6 rfl 3 rfl ?_
  refine v_putf 59 (fs' := _) (ci := 11) (C := RX13) (T := TX13) (N := 71) (ty := .boolean) rfl iwX13_find_X13 tyX13 tyX13_ok nmX13 (Nat.le_of_ble_eq_true rfl) (by decide +kernel) rfl rfl dX13_find_7 (by rcases hfv with q | q <;> (rw [q]; rfl)) (by rcases hfv with q | q <;> (rw [q]; rfl)) (by repeat (first | with_reducible assumption | (with_reducible refine sv_us.trans ?_; exact rfl) | with_reducible refine (sv_un (by omega)).trans ?_)) (by first | omega | (simp only [List.length_set]; omega)) rfl ?_
  refine v_aload_n dX13_find_10 rfl 0 rfl ?_
  refine v_iconst (v := 0) dX13_find_11 (by decide) ?_
  refine v_putf 28 (fs' := _) (ci := 11) (C := RX13) (T := TX13) (N := 71) (ty := .int) rfl iwX13_find_X13 tyX13 tyX13_ok nmX13 (Nat.le_of_ble_eq_true rfl) (by decide +kernel) rfl rfl dX13_find_12 rfl rfl (by repeat (first | with_reducible assumption | (with_reducible refine sv_us.trans ?_; exact rfl) | with_reducible refine (sv_un (by omega)).trans ?_)) (by first | omega | (simp only [List.length_set]; omega)) rfl ?_
  refine v_aload_n dX13_find_15 rfl 0 rfl ?_
  refine v_iconst (v := 0) dX13_find_16 (by decide) ?_
  refine v_putf 29 (fs' := _) (ci := 11) (C := RX13) (T := TX13) (N := 71) (ty := .boolean) rfl iwX13_find_X13 tyX13 tyX13_ok nmX13 (Nat.le_of_ble_eq_true rfl) (by decide +kernel) rfl rfl dX13_find_17 rfl rfl (by repeat (first | with_reducible assumption | (with_reducible refine sv_us.trans ?_; exact rfl) | with_reducible refine (sv_un (by omega)).trans ?_)) (by first | omega | (simp only [List.length_set]; omega)) rfl ?_
  refine v_aload_n dX13_find_20 rfl 0 rfl ?_
  refine v_getf 19 (ci := 11) (C := RX13) (T := TX13) (N := 71) rfl iwX13_find_X13 (Nat.le_of_ble_eq_true rfl) (by decide +kernel) dX13_find_21 (by repeat (first | with_reducible assumption | (with_reducible refine sv_us.trans ?_; exact rfl) | with_reducible refine (sv_un (by omega)).trans ?_)) (by repeat (first | with_reducible assumption | (with_reducible refine (sv_ls (by first | omega | (simp only [List.length_set]; omega))).trans ?_; exact rfl) | with_reducible refine (List.getElem?_set_ne (by decide)).trans ?_)) ?_
  refine v_iload_n dX13_find_24 rfl 1 rfl ?_
  refine v_ialdS (v := nI kd) dX13_find_25 (by repeat (first | with_reducible assumption | (with_reducible refine sv_us.trans ?_; exact rfl) | with_reducible refine (sv_un (by omega)).trans ?_)) (vp_in_nI (by omega) (by omega)) (by rw [nI_clamp (by omega)]; exact r33a) ?_
  refine v_iconst (v := 5) dX13_find_26 (by decide) ?_
  refine v_icmp_eq (tgt := 41) dX13_find_27 (by decide) (fun c_27 => ?_) (fun c_27 => ?_)
  · refine v_sub (L' := [(3, _), (2, _), (1, _), (0, _)]) [3, 2, 1, 0] rfl ?_
    have k56 : kd = 5 ∨ kd = 6 := (by
      first
        | exact Or.inl (nI_11 kd r1 5 (by decide) c_27)
        | exact Or.inr (nI_11 kd r1 6 (by decide) c_38))
    obtain ⟨u9, UF9⟩ := UF0
    refine t_fi41 G _ _ b nc np pl R hm p3 p4 sz ly vo mp X Y hb fs0 hq0 MY hXY hR rk hr hrn OKH ri kd l1 l2 x3 x4 x5 x6 RU hen n0 pg0 cc0 cl hcl hN1 fv hfv hbw k56 u9 (fun h2 fs2 v1 v2 v3 v4 v5 v6 v7 v8 vS v9 => ⟨rfl, fs2, v1, v2, v3, v4, v5, v6, v7, v8, vS, _, v9, Or.inl ⟨?_, ?_, rfl⟩⟩) _ ((((fs0.set 58 (.int (nI ri))).set 59 (.int fv)).set 28 (.int 0)).set 29 (.int 0)) sv_us (by rw [List.length_set, List.length_set, List.length_set, List.length_set]; exact hq0.1) (((((fsE.rf (S := [28, 29, 36, 41, 52, 53, 54, 55, 56, 57, 58, 59, 60, 61, 62]) (fs := fs0)).st (k := 58) (by decide)).st (k := 59) (by decide)).st (k := 28) (by decide)).st (k := 29) (by decide)) ((List.getElem?_set_ne (by decide)).trans ((List.getElem?_set_ne (by decide)).trans ((List.getElem?_set_ne (by decide)).trans (sv_ls (by omega))))) ((List.getElem?_set_ne (by decide)).trans ((List.getElem?_set_ne (by decide)).trans (sv_ls (by rw [List.length_set]; omega)))) (fun a p1 p2 p3_ => (sv_un p1).trans ((sv_un p1).trans ((sv_un p1).trans (sv_un p1)))) (((sv_un (by omega)).trans ((sv_un (by omega)).trans ((sv_un (by omega)).trans (sv_un (by omega))))).trans UF9) (SC0.kp (fun a p1 p2 => (sv_un (by omega)).trans ((sv_un (by omega)).trans ((sv_un (by omega)).trans (sv_un (by omega)))))) (SZ0.kp ((sv_un (by omega)).trans ((sv_un (by omega)).trans ((sv_un (by omega)).trans (sv_un (by omega)))))) ⟨(List.getElem?_set_ne (by decide)).trans (sv_ls (by rw [List.length_set, List.length_set]; omega)), sv_ls (by rw [List.length_set, List.length_set, List.length_set]; omega), gt, ((sv_un (by omega)).trans ((sv_un (by omega)).trans ((sv_un (by omega)).trans (sv_un (by omega))))).trans t41, fun _ k9 hk9 => absurd hk9 (Nat.not_lt_zero k9), hgu⟩ mo ((List.getElem?_set_ne (by decide)).trans ((List.getElem?_set_ne (by decide)).trans ((List.getElem?_set_ne (by decide)).trans ((List.getElem?_set_ne (by decide)).trans (h60)))))
    · rw [show (fiQ fv kd l1 l2 x3 x4 x5 x6 nc np pl R hm p3 p4 ly vo mp sz X Y g cl) = whQ kd x3 cl (dS np pl (rQ R hm) p3 p4 16 cl []).length (arW (fun p => arM (crR (fun k => (X p k, Y p k)) (sz p)) (sz p)) ly l1 (dS np pl (rQ R hm) p3 p4 16 cl []) (dS np pl (rQ R hm) p3 p4 16 cl []).length) (cnS ly l1 (dS np pl (rQ R hm) p3 p4 16 cl []) (dS np pl (rQ R hm) p3 p4 16 cl []).length) (spn (bxW mp sz X Y (dS np pl (rQ R hm) p3 p4 16 cl [])) (dS np pl (rQ R hm) p3 p4 16 cl []).length) from if_pos k56]
      unfold whQ
      split
      · exact (by decide : 1 ≤ 1500)
      · exact Nat.zero_le _
    · exact (if_pos k56).symm
  · refine v_aload_n dX13_find_30 rfl 0 rfl ?_
    refine v_getf 19 (ci := 11) (C := RX13) (T := TX13) (N := 71) rfl iwX13_find_X13 (Nat.le_of_ble_eq_true rfl) (by decide +kernel) dX13_find_31 (by repeat (first | with_reducible assumption | (with_reducible refine sv_us.trans ?_; exact rfl) | with_reducible refine (sv_un (by omega)).trans ?_)) (by repeat (first | with_reducible assumption | (with_reducible refine (sv_ls (by first | omega | (simp only [List.length_set]; omega))).trans ?_; exact rfl) | with_reducible refine (List.getElem?_set_ne (by decide)).trans ?_)) ?_
    refine v_iload_n dX13_find_34 rfl 1 rfl ?_
    refine v_ialdS (v := nI kd) dX13_find_35 (by repeat (first | with_reducible assumption | (with_reducible refine sv_us.trans ?_; exact rfl) | with_reducible refine (sv_un (by omega)).trans ?_)) (vp_in_nI (by omega) (by omega)) (by rw [nI_clamp (by omega)]; exact r33a) ?_
    refine v_bipush (v := 6) dX13_find_36 (by decide) ?_
    refine v_icmp_ne (tgt := 60) dX13_find_38 (by decide) (fun c_38 => ?_) (fun c_38 => ?_)
    · refine v_aload_n dX13_find_60 rfl 0 rfl ?_
      refine v_iload_n dX13_find_61 rfl 2 rfl ?_
      refine v_callVq (M' := mX13_markUnder) (n := 1) (As := [_]) (ci := 11) (r := (RX13, TX13, 71)) gX13_find_X13_markUnder rfl (by decide +kernel) ⟨(Nat.le_of_ble_eq_true rfl), (Nat.le_of_ble_eq_true rfl)⟩ rfl rfl dX13_find_62 rfl ⟨(Nat.le_of_ble_eq_true rfl), (Nat.le_of_ble_eq_true rfl)⟩ (Nat.le_of_ble_eq_true rfl) (by repeat (first | with_reducible assumption | (with_reducible refine sv_us.trans ?_; exact rfl) | with_reducible refine (sv_un (by omega)).trans ?_)) rfl (m_markUnder G _ _ b pl nc ((((fs0.set 58 (.int (nI ri))).set 59 (.int fv)).set 28 (.int 0)).set 29 (.int 0)) p3 p4 g6 g7 (by rw [List.length_set, List.length_set, List.length_set, List.length_set]; exact hq0.1) sv_us hqF.f_under hqF.f_places hqF.f_placeIn hqF.f_placeOf (((sv_un (by omega)).trans ((sv_un (by omega)).trans ((sv_un (by omega)).trans (sv_un (by omega))))).trans y6) (((sv_un (by omega)).trans ((sv_un (by omega)).trans ((sv_un (by omega)).trans (sv_un (by omega))))).trans y7) yC yD (fun i hi => ⟨y6a i hi, y7a i hi, (yF i hi).1, (yF i hi).2⟩) cl hcl u9 (((sv_un (by omega)).trans ((sv_un (by omega)).trans ((sv_un (by omega)).trans (sv_un (by omega))))).trans UF9)) (fun v9 h1 z1 hq9 => ?_)
      obtain ⟨rfl, rfl, ⟨uf, w1, w2⟩, w3⟩ := hq9
      refine v_iconst (v := 0) dX13_find_65 (by decide) ?_
      refine v_istore (L' := [(4, _), (0, _), (1, _), (2, _), (3, _)]) dX13_find_66 (Nat.le_of_ble_eq_true rfl) rfl ?_
      refine v_sub (L' := [(4, _), (3, _), (2, _), (1, _), (0, _)]) [0, 4, 3, 2, 1] rfl ?_
      have k56 : ¬ (kd = 5 ∨ kd = 6) := fun q => (by
        rcases q with q | q
        · exact c_27 (congrArg nI q)
        · exact c_38 (congrArg nI q))
      have eFQ : (fiQ fv kd l1 l2 x3 x4 x5 x6 nc np pl R hm p3 p4 ly vo mp sz X Y g cl) = ((List.range nc).flatMap (fun c => (if (fv ≠ 0 ∧ c = cl) ∨ (fv = 0 ∧ ¬ uf c = 0) then goQ fv kd l1 l2 x3 x4 x5 x6 p4 ly vo mp sz X Y c (dS np pl (rQ R hm) p3 p4 16 c []) else []))) := (by
        refine (if_neg k56).trans (fM_eq9 _ (fun c hc => ?_))
        have q9 : g c = true ↔ ¬ uf c = 0 := (hg c (by omega)).trans (w2 c (by omega)).symm
        by_cases q : (fv ≠ 0 ∧ c = cl) ∨ (fv = 0 ∧ ¬ uf c = 0)
        · rw [if_pos q, if_pos (q.imp (fun z => z) (fun z => ⟨z.1, q9.mpr z.2⟩))]
        · rw [if_neg q, if_neg (fun z => q (z.imp (fun z => z) (fun z => ⟨z.1, q9.mp z.2⟩)))])
      refine l_fi G _ _ b nc np pl R hm p3 p4 sz ly vo mp X Y hb fs0 hq0 MY hXY hR rk hr hrn OKH ri kd l1 l2 x3 x4 x5 x6 RU hen n0 pg0 cc0 cl hcl hN1 fv hfv uf w2 (fun h2 fs2 v9 v1 v2 v3 v4 v5 v6 v7 v8 vS v10 => ?_) nc 0 _ ((((fs0.set 58 (.int (nI ri))).set 59 (.int fv)).set 28 (.int 0)).set 29 (.int 0)) (Nat.zero_add _) ((w3 _ (by omega)).trans sv_us) (by rw [List.length_set, List.length_set, List.length_set, List.length_set]; exact hq0.1) (((((fsE.rf (S := [28, 29, 36, 41, 52, 53, 54, 55, 56, 57, 58, 59, 60, 61, 62]) (fs := fs0)).st (k := 58) (by decide)).st (k := 59) (by decide)).st (k := 28) (by decide)).st (k := 29) (by decide)) ((List.getElem?_set_ne (by decide)).trans ((List.getElem?_set_ne (by decide)).trans ((List.getElem?_set_ne (by decide)).trans (sv_ls (by omega))))) ((List.getElem?_set_ne (by decide)).trans ((List.getElem?_set_ne (by decide)).trans (sv_ls (by rw [List.length_set]; omega)))) (fun a p1 p2 p3_ => (w3 a (by omega)).trans ((sv_un p1).trans ((sv_un p1).trans ((sv_un p1).trans (sv_un p1))))) w1 (SC0.kp (fun a p1 p2 => (w3 a (by omega)).trans ((sv_un (by omega)).trans ((sv_un (by omega)).trans ((sv_un (by omega)).trans (sv_un (by omega))))))) (SZ0.kp ((w3 _ (by omega)).trans ((sv_un (by omega)).trans ((sv_un (by omega)).trans ((sv_un (by omega)).trans (sv_un (by omega))))))) (by
        rw [List.range_zero, List.flatMap_nil]
        exact ⟨(List.getElem?_set_ne (by decide)).trans (sv_ls (by rw [List.length_set, List.length_set]; omega)), sv_ls (by rw [List.length_set, List.length_set, List.length_set]; omega), gt, (w3 _ (by omega)).trans (((sv_un (by omega)).trans ((sv_un (by omega)).trans ((sv_un (by omega)).trans (sv_un (by omega))))).trans t41), fun _ k9 hk9 => absurd hk9 (Nat.not_lt_zero k9), hgu⟩)
      obtain ⟨E1, q1, q2⟩ := v10
      refine ⟨rfl, fs2, v1, v2, v3, v4, v5, v6, ⟨uf, v7⟩, v8, vS, E1, q1, ?_⟩
      rw [eFQ]
      rcases q2 with ⟨q2, q3, q4⟩ | ⟨q2, q4⟩
      · exact Or.inl ⟨q2, q3, by rw [q4]⟩
      · exact Or.inr ⟨q2, by rw [q4]⟩
    · refine v_sub (L' := [(3, _), (2, _), (1, _), (0, _)]) [3, 2, 1, 0] rfl ?_
      have k56 : kd = 5 ∨ kd = 6 := (by
        first
          | exact Or.inl (nI_11 kd r1 5 (by decide) c_27)
          | exact Or.inr (nI_11 kd r1 6 (by decide) c_38))
      obtain ⟨u9, UF9⟩ := UF0
      refine t_fi41 G _ _ b nc np pl R hm p3 p4 sz ly vo mp X Y hb fs0 hq0 MY hXY hR rk hr hrn OKH ri kd l1 l2 x3 x4 x5 x6 RU hen n0 pg0 cc0 cl hcl hN1 fv hfv hbw k56 u9 (fun h2 fs2 v1 v2 v3 v4 v5 v6 v7 v8 vS v9 => ⟨rfl, fs2, v1, v2, v3, v4, v5, v6, v7, v8, vS, _, v9, Or.inl ⟨?_, ?_, rfl⟩⟩) _ ((((fs0.set 58 (.int (nI ri))).set 59 (.int fv)).set 28 (.int 0)).set 29 (.int 0)) sv_us (by rw [List.length_set, List.length_set, List.length_set, List.length_set]; exact hq0.1) (((((fsE.rf (S := [28, 29, 36, 41, 52, 53, 54, 55, 56, 57, 58, 59, 60, 61, 62]) (fs := fs0)).st (k := 58) (by decide)).st (k := 59) (by decide)).st (k := 28) (by decide)).st (k := 29) (by decide)) ((List.getElem?_set_ne (by decide)).trans ((List.getElem?_set_ne (by decide)).trans ((List.getElem?_set_ne (by decide)).trans (sv_ls (by omega))))) ((List.getElem?_set_ne (by decide)).trans ((List.getElem?_set_ne (by decide)).trans (sv_ls (by rw [List.length_set]; omega)))) (fun a p1 p2 p3_ => (sv_un p1).trans ((sv_un p1).trans ((sv_un p1).trans (sv_un p1)))) (((sv_un (by omega)).trans ((sv_un (by omega)).trans ((sv_un (by omega)).trans (sv_un (by omega))))).trans UF9) (SC0.kp (fun a p1 p2 => (sv_un (by omega)).trans ((sv_un (by omega)).trans ((sv_un (by omega)).trans (sv_un (by omega)))))) (SZ0.kp ((sv_un (by omega)).trans ((sv_un (by omega)).trans ((sv_un (by omega)).trans (sv_un (by omega)))))) ⟨(List.getElem?_set_ne (by decide)).trans (sv_ls (by rw [List.length_set, List.length_set]; omega)), sv_ls (by rw [List.length_set, List.length_set, List.length_set]; omega), gt, ((sv_un (by omega)).trans ((sv_un (by omega)).trans ((sv_un (by omega)).trans (sv_un (by omega))))).trans t41, fun _ k9 hk9 => absurd hk9 (Nat.not_lt_zero k9), hgu⟩ mo ((List.getElem?_set_ne (by decide)).trans ((List.getElem?_set_ne (by decide)).trans ((List.getElem?_set_ne (by decide)).trans ((List.getElem?_set_ne (by decide)).trans (h60)))))
      · rw [show (fiQ fv kd l1 l2 x3 x4 x5 x6 nc np pl R hm p3 p4 ly vo mp sz X Y g cl) = whQ kd x3 cl (dS np pl (rQ R hm) p3 p4 16 cl []).length (arW (fun p => arM (crR (fun k => (X p k, Y p k)) (sz p)) (sz p)) ly l1 (dS np pl (rQ R hm) p3 p4 16 cl []) (dS np pl (rQ R hm) p3 p4 16 cl []).length) (cnS ly l1 (dS np pl (rQ R hm) p3 p4 16 cl []) (dS np pl (rQ R hm) p3 p4 16 cl []).length) (spn (bxW mp sz X Y (dS np pl (rQ R hm) p3 p4 16 cl [])) (dS np pl (rQ R hm) p3 p4 16 cl []).length) from if_pos k56]
        unfold whQ
        split
        · exact (by decide : 1 ≤ 1500)
        · exact Nat.zero_le _
      · exact (if_pos k56).symm

end GU
