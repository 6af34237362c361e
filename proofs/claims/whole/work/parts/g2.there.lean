theorem iwX13_isThere_X13 : ∀ w ∈ wsX130, w ∈ wsX13_isThere := by decide +kernel
set_option maxRecDepth 20000 in
theorem ggX13_isThere_X13_layOut : GoodIn wsX13_isThere wsX13_layOut := goodIn_r _ [10, 11, 12, 13, 3, 4, 1, 14, 15, 16, 9, 17, 18, 19, 20, 21, 22, 23, 24, 25, 26, 34, 35, 36, 37, 38, 39, 40, 41, 42, 43, 44, 45, 46, 47, 48, 49, 50, 51, 52, 53, 54, 55, 56, 57, 58, 59, 60, 61, 62, 63, 64, 65, 66, 67, 68, 69, 70, 71, 72, 73, 74, 75, 76, 77, 78, 79, 80, 81, 82, 83, 84, 85, 86, 87, 88, 89, 90, 91, 92, 93, 94, 95, 96, 97, 98, 99, 100, 101, 102, 103, 104] (by decide +kernel) (by decide +kernel)
set_option maxRecDepth 20000 in
theorem gX13_isThere_X13_layOut : GoodIn wsX13_isThere (wsV RX13 267 RX13 yX13_layOut wsX13_layOut) := goodIn_app (goodIn_of _ (by decide +kernel)) ggX13_isThere_X13_layOut
set_option maxRecDepth 20000 in
theorem ggX13_isThere_X13_mark : GoodIn wsX13_isThere wsX13_mark := goodIn_r _ [30, 31, 32, 11, 33, 34, 35, 36, 37, 38, 39, 40, 41, 42, 43, 44, 45, 46, 47, 48, 49, 50, 51, 52, 53, 54, 55, 56, 57, 58, 59, 60, 61, 62, 63, 64, 65, 66, 67, 68, 69, 70, 71, 72, 73, 74, 75, 76, 77, 78, 79, 80, 81, 82, 83, 84, 85, 86, 87, 88, 89, 90, 91, 92, 93, 94, 95, 96, 97, 98, 99, 100, 101, 102, 103, 104] (by decide +kernel) (by decide +kernel)
set_option maxRecDepth 20000 in
theorem gX13_isThere_X13_mark : GoodIn wsX13_isThere (wsV RX13 365 RX13 yX13_mark wsX13_mark) := goodIn_app (goodIn_of _ (by decide +kernel)) ggX13_isThere_X13_mark
theorem dX13_isThere_0 : decode cX13_isThere 0 = .ok (.aload_n 0, 1) := by decide +kernel
theorem dX13_isThere_1 : decode cX13_isThere 1 = .ok (.bipush 100, 2) := by decide +kernel
theorem dX13_isThere_3 : decode cX13_isThere 3 = .ok (.putfield 273, 3) := by decide +kernel
theorem dX13_isThere_6 : decode cX13_isThere 6 = .ok (.aload_n 0, 1) := by decide +kernel
theorem dX13_isThere_7 : decode cX13_isThere 7 = .ok (.aload_n 0, 1) := by decide +kernel
theorem dX13_isThere_8 : decode cX13_isThere 8 = .ok (.getfield 205, 3) := by decide +kernel
theorem dX13_isThere_11 : decode cX13_isThere 11 = .ok (.putfield 270, 3) := by decide +kernel
theorem dX13_isThere_14 : decode cX13_isThere 14 = .ok (.iconst 0, 1) := by decide +kernel
theorem dX13_isThere_15 : decode cX13_isThere 15 = .ok (.istore_n 2, 1) := by decide +kernel
theorem dX13_isThere_16 : decode cX13_isThere 16 = .ok (.iload_n 2, 1) := by decide +kernel
theorem dX13_isThere_17 : decode cX13_isThere 17 = .ok (.aload_n 0, 1) := by decide +kernel
theorem dX13_isThere_18 : decode cX13_isThere 18 = .ok (.getfield 205, 3) := by decide +kernel
theorem dX13_isThere_21 : decode cX13_isThere 21 = .ok (.if_icmp .ge 25, 3) := by decide +kernel
theorem dX13_isThere_24 : decode cX13_isThere 24 = .ok (.aload_n 0, 1) := by decide +kernel
theorem dX13_isThere_25 : decode cX13_isThere 25 = .ok (.getfield 92, 3) := by decide +kernel
theorem dX13_isThere_28 : decode cX13_isThere 28 = .ok (.sipush 1600, 3) := by decide +kernel
theorem dX13_isThere_31 : decode cX13_isThere 31 = .ok (.iload_n 2, 1) := by decide +kernel
theorem dX13_isThere_32 : decode cX13_isThere 32 = .ok (.iadd, 1) := by decide +kernel
theorem dX13_isThere_33 : decode cX13_isThere 33 = .ok (.aload_n 0, 1) := by decide +kernel
theorem dX13_isThere_34 : decode cX13_isThere 34 = .ok (.getfield 95, 3) := by decide +kernel
theorem dX13_isThere_37 : decode cX13_isThere 37 = .ok (.iload_n 2, 1) := by decide +kernel
theorem dX13_isThere_38 : decode cX13_isThere 38 = .ok (.iaload, 1) := by decide +kernel
theorem dX13_isThere_39 : decode cX13_isThere 39 = .ok (.iastore, 1) := by decide +kernel
theorem dX13_isThere_40 : decode cX13_isThere 40 = .ok (.iinc 2 1, 3) := by decide +kernel
theorem dX13_isThere_43 : decode cX13_isThere 43 = .ok (.goto (-27), 3) := by decide +kernel
theorem dX13_isThere_46 : decode cX13_isThere 46 = .ok (.aload_n 0, 1) := by decide +kernel
theorem dX13_isThere_47 : decode cX13_isThere 47 = .ok (.iload_n 1, 1) := by decide +kernel
theorem dX13_isThere_48 : decode cX13_isThere 48 = .ok (.invokevirtual 267, 3) := by decide +kernel
theorem dX13_isThere_51 : decode cX13_isThere 51 = .ok (.aload_n 0, 1) := by decide +kernel
theorem dX13_isThere_52 : decode cX13_isThere 52 = .ok (.iload_n 1, 1) := by decide +kernel
theorem dX13_isThere_53 : decode cX13_isThere 53 = .ok (.invokevirtual 365, 3) := by decide +kernel
theorem dX13_isThere_56 : decode cX13_isThere 56 = .ok (.ireturn, 1) := by decide +kernel

abbrev mX13_isThere : sv_M := (cX13_isThere, 3, yX13_isThere, wsX13_isThere, (some .boolean), { frames := 6, cells := 0, slots := 0, locals := 150 }, [])
/-- a valid way from c to d -/
def vwy (pl : Nat) (p3 p4 : Nat → Nat) : Nat → List Nat → Nat → Prop
  | c, [], d => c = d
  | c, i :: w, d => i < pl ∧ p3 i = c ∧ vwy pl p3 p4 (p4 i) w d
theorem vwy_s {pl : Nat} {p3 p4 : Nat → Nat} : ∀ (w : List Nat) (c d i : Nat), vwy pl p3 p4 c w d → i < pl → p3 i = d → vwy pl p3 p4 c (w ++ [i]) (p4 i)
  | [], c, d, i, h, hi, e => ⟨hi, by rw [e]; exact h.symm, rfl⟩
  | j :: w, c, d, i, h, hi, e => ⟨h.1, h.2.1, vwy_s w (p4 j) d i h.2.2 hi e⟩
theorem vwy_R {pl : Nat} {p3 p4 : Nat → Nat} : ∀ (w : List Nat) (c d : Nat), vwy pl p3 p4 c w d → gr_R pl p3 p4 c d
  | [], c, d, h => fun S s0 _ => by rw [← show c = d from h]; exact s0
  | i :: w, c, d, h => fun S s0 s1 => vwy_R w (p4 i) d h.2.2 S (s1 i h.1 (by rw [h.2.1]; exact s0)) s1
/-- the row as it lies behind a way -/
def xrW (mp : Nat → mvT) (x0 y0 x1 y1 aI eI m cI : Int) (w : List Nat) : List Int64 := mvR (mvW mp w) (rwI x0 y0 x1 y1 aI eI m cI)
set_option maxHeartbeats 4000000 in
set_option maxRecDepth 100000 in
theorem ct_lm (G : sv_G) (z b nc np pl : Nat) (R : Nat → Bool) (hm p3 p4 sz : Nat → Nat) (ly vo : Nat → Int32) (mp : Nat → mvT) (X Y : Nat → Nat → Int) (hb : sv_h) (fs0 : List Value) (hq0 : mfq_ b nc np pl fs0) (MY : myl_ G hb b nc np pl R hm p3 p4 sz ly vo mp X Y) (r : Nat) (hr : r < 1500) (x0 y0 x1 y1 aI eI m : Int) (tc : Nat) (hx4 : (-200000 ≤ x0 ∧ x0 ≤ 200000) ∧ (-200000 ≤ y0 ∧ y0 ≤ 200000) ∧ (-200000 ≤ x1 ∧ x1 ≤ 200000) ∧ (-200000 ≤ y1 ∧ y1 ≤ 200000)) (FL : List (List Int64)) (hF15 : FL.length ≤ 1500) (f64 : fs0[64]? = some (.int (nI FL.length))) (ft : Nat → Int64) (A59 : ab_J G hb (b + 259) 10500 ft) (hft : ∀ k9 j9, k9 < FL.length → j9 < 7 → ft (7 * k9 + j9) = (FL.getD k9 []).getD j9 0) (hMBw : ∀ w : List Nat, (∀ i, i ∈ w → i < pl) → w.length < 16 → ∀ x y : Int, -200000 ≤ x ∧ x ≤ 200000 → -200000 ≤ y ∧ y ≤ 200000 → (-1000000000 ≤ (mvA (mvW mp w) (x, y)).1 ∧ (mvA (mvW mp w) (x, y)).1 ≤ 1000000000) ∧ (-1000000000 ≤ (mvA (mvW mp w) (x, y)).2 ∧ (mvA (mvW mp w) (x, y)).2 ≤ 1000000000)) (wy : List Nat) (hwp : ∀ i, i ∈ wy → i < pl) (hw16 : wy.length < 16) (h : sv_h) (fs : List Value) (hm9 : h (b + 220) = some (.inr (11, fs))) (hq : mfq_ b nc np pl fs) (MYh : myl_ G h b nc np pl R hm p3 p4 sz ly vo mp X Y) (f64h : fs[64]? = some (.int (nI FL.length))) (A59h : ab_J G h (b + 259) 10500 ft) (mo : Value) (h60 : fs[60]? = some mo) (h61 : fs[61]? = some (.int (nI wy.length))) (fw : Nat → Int32) (o3 : ab_I G h (b + 246) 1616 fw) (hmo : 0 < wy.length → mo = .int (nI 100) ∧ ∀ e, e < wy.length → fw (1600 + e) = nI (wy.getD e 0)) (gt : Nat → Int64) (t41 : ab_J G h (b + 241) 36048 gt) (hrow : (gt (12 * r + 4) = jN aI ∧ gt (12 * r + 5) = jN eI ∧ gt (12 * r + 6) = jN m ∧ gt (12 * r + 7) = jN (tc : Int)) ∧ gt (12 * r + 8) = jN x0 ∧ gt (12 * r + 9) = jN y0 ∧ gt (12 * r + 10) = jN x1 ∧ gt (12 * r + 11) = jN y1) (VL : List (List Int64)) (mt : Nat → Int32) (A60 : ab_Z G h (b + 260) 1500 mt) (hmt : ∀ i9, i9 < FL.length → mt i9 = bI ((fun i9 => (VL).any (fun x => alk (FL.getD i9 []) x 7)) i9)) : CT G mX13_layOut [.ref (b + 220), .int (nI (12 * r))] h z (fun v h1 z1 => v = none ∧ z1 = z ∧ (∃ fs1, h1 (b + 220) = some (.inr (11, fs1)) ∧ fs1.length = 71 ∧ fsE [52, 53] fs fs1) ∧ (∃ gt1, ab_J G h1 (b + 241) 36048 gt1 ∧ (∀ j, j < 7 → gt1 (12 * r + j) = (xrW mp x0 y0 x1 y1 aI eI m (tc : Int) wy).getD j 0) ∧ ∀ a, ¬ (12 * r ≤ a ∧ a < 12 * r + 4) → gt1 a = gt a) ∧ ∀ a, a ≠ b + 220 → a ≠ b + 241 → h1 a = h a) := by
  have hb0 := hMBw wy hwp hw16 x0 y0 hx4.1 hx4.2.1
  have hb1 := hMBw wy hwp hw16 x1 y1 hx4.2.2.1 hx4.2.2.2
  have etk : wy.take wy.length = wy := List.take_length
  obtain ⟨⟨g4, g5, g6, g7⟩, g8, g9, g10, g11⟩ := hrow
  refine (m_layOutW G z b nc np pl R hm p3 p4 sz ly vo mp X Y h fs hq MYh wy hwp wy.length (Nat.le_refl _) (by omega) mo 100 fw o3 (fun q => ⟨(hmo q).1, by decide, (hmo q).2⟩) h60 h61 r hr hm9 gt t41 x0 y0 x1 y1 g8 g9 g10 g11 (by rw [etk]; exact hb0.1) (by rw [etk]; exact hb0.2) (by rw [etk]; exact hb1.1) (by rw [etk]; exact hb1.2)).mono (fun v h1 z1 _ hq9 => ?_)
  obtain ⟨rfl, rfl, u1, ⟨gt1, v1, v2, v3, v4, v5, v6⟩, u4⟩ := hq9
  rw [etk] at v2 v3 v4 v5
  refine ⟨rfl, rfl, u1, ⟨gt1, v1, fun j hj => ?_, v6⟩, u4⟩
  unfold xrW
  rw [mvR_rw (mvW mp wy) aI eI m (tc : Int) hx4]
  match j, hj with
  | 0, _ => exact v2
  | 1, _ => exact v3
  | 2, _ => exact v4
  | 3, _ => exact v5
  | 4, _ => exact (v6 _ (by omega)).trans g4
  | 5, _ => exact (v6 _ (by omega)).trans g5
  | 6, _ => exact (v6 _ (by omega)).trans g6
  | j + 7, q => exact absurd q (by omega)
set_option maxHeartbeats 4000000 in
set_option maxRecDepth 100000 in
theorem l_itW (G : sv_G) (Qr : Option Value → sv_h → Nat → Prop) (z b nc np pl : Nat) (wy : List Nat) (hw16 : wy.length < 16) (rI : Int32) (hc : sv_h) (fs : List Value) (hqf : mfq_ b nc np pl fs) (hmc : hc (b + 220) = some (.inr (11, fs))) (f_deep : fs[41]? = some (.int (nI wy.length))) (MSc : mst_ G hc b wy) (hk : ∀ (h : sv_h) (fw : Nat → Int32), ab_I G h (b + 246) 1616 fw → (∀ j, j < wy.length → fw (1600 + j) = nI (wy.getD j 0)) → (∀ a, a ≠ b + 246 → h a = hc a) → V G mX13_isThere (sv_MQ G mX13_isThere Qr) 46 [(1, .int rI), (0, .ref (b + 220))] [] h z 0 0) : ∀ (e k : Nat) (h : sv_h) (fw : Nat → Int32), k + e = wy.length → ab_I G h (b + 246) 1616 fw → (∀ j, j < k → fw (1600 + j) = nI (wy.getD j 0)) → (∀ a, a ≠ b + 246 → h a = hc a) → V G mX13_isThere (sv_MQ G mX13_isThere Qr) 16 [(2, .int (nI k)), (1, .int rI), (0, .ref (b + 220))] [] h z 0 0 := by
  intro e
  induction e with
  | zero =>
    intro k h fw hke a1 a2 frh
    have hlen : fs.length = 71 := hqf.1
    have hm9 := (frh (b + 220) (by omega)).trans hmc
    obtain ⟨fst, s1, s2, s3⟩ := id MSc
    have w247 : ab_I G h (b + 247) 17 fst := (frh _ (by omega)).trans s1
    have f_stack := hqf.f_stack
    have f_way := hqf.f_way
    have e9 : k = wy.length := by omega
    subst e9
    refine v_iload_n dX13_isThere_16 rfl 0 rfl ?_
    refine v_aload_n dX13_isThere_17 rfl 2 rfl ?_
    refine v_getf 41 (ci := 11) (C := RX13) (T := TX13) (N := 71) rfl iwX13_isThere_X13 (Nat.le_of_ble_eq_true rfl) (by decide +kernel) dX13_isThere_18 (by repeat (first | with_reducible assumption | (with_reducible refine sv_us.trans ?_; exact rfl) | with_reducible refine (sv_un (by omega)).trans ?_)) (by repeat (first | with_reducible assumption | (with_reducible refine (sv_ls (by first | omega | (simp only [List.length_set]; omega))).trans ?_; exact rfl) | with_reducible refine (List.getElem?_set_ne (by decide)).trans ?_)) ?_
    refine v_icmp_ge (tgt := 46) dX13_isThere_21 (by decide) (fun c_21 => ?_) (fun c_21 => ?_)
    · refine v_sub (L' := [(1, _), (0, _)]) [1, 2] rfl ?_
      exact hk h fw a1 a2 frh
    · exact absurd (nI_le (Nat.le_refl _) (by omega)) c_21
  | succ e ih =>
    intro k h fw hke a1 a2 frh
    have hlen : fs.length = 71 := hqf.1
    have hm9 := (frh (b + 220) (by omega)).trans hmc
    obtain ⟨fst, s1, s2, s3⟩ := id MSc
    have w247 : ab_I G h (b + 247) 17 fst := (frh _ (by omega)).trans s1
    have f_stack := hqf.f_stack
    have f_way := hqf.f_way
    have hkl : k < wy.length := by omega
    refine v_iload_n dX13_isThere_16 rfl 0 rfl ?_
    refine v_aload_n dX13_isThere_17 rfl 2 rfl ?_
    refine v_getf 41 (ci := 11) (C := RX13) (T := TX13) (N := 71) rfl iwX13_isThere_X13 (Nat.le_of_ble_eq_true rfl) (by decide +kernel) dX13_isThere_18 (by repeat (first | with_reducible assumption | (with_reducible refine sv_us.trans ?_; exact rfl) | with_reducible refine (sv_un (by omega)).trans ?_)) (by repeat (first | with_reducible assumption | (with_reducible refine (sv_ls (by first | omega | (simp only [List.length_set]; omega))).trans ?_; exact rfl) | with_reducible refine (List.getElem?_set_ne (by decide)).trans ?_)) ?_
    refine v_icmp_ge (tgt := 46) dX13_isThere_21 (by decide) (fun c_21 => ?_) (fun c_21 => ?_)
    · exact absurd c_21 (nI_ge hkl (by omega))
    · refine v_aload_n dX13_isThere_24 rfl 2 rfl ?_
      refine v_getf 39 (ci := 11) (C := RX13) (T := TX13) (N := 71) rfl iwX13_isThere_X13 (Nat.le_of_ble_eq_true rfl) (by decide +kernel) dX13_isThere_25 (by repeat (first | with_reducible assumption | (with_reducible refine sv_us.trans ?_; exact rfl) | with_reducible refine (sv_un (by omega)).trans ?_)) (by repeat (first | with_reducible assumption | (with_reducible refine (sv_ls (by first | omega | (simp only [List.length_set]; omega))).trans ?_; exact rfl) | with_reducible refine (List.getElem?_set_ne (by decide)).trans ?_)) ?_
      refine v_sipush (v := 1600) dX13_isThere_28 (by decide) ?_
      refine v_iload_n dX13_isThere_31 rfl 0 rfl ?_
      refine v_iadd dX13_isThere_32 ?_
      refine v_aload_n dX13_isThere_33 rfl 2 rfl ?_
      refine v_getf 40 (ci := 11) (C := RX13) (T := TX13) (N := 71) rfl iwX13_isThere_X13 (Nat.le_of_ble_eq_true rfl) (by decide +kernel) dX13_isThere_34 (by repeat (first | with_reducible assumption | (with_reducible refine sv_us.trans ?_; exact rfl) | with_reducible refine (sv_un (by omega)).trans ?_)) (by repeat (first | with_reducible assumption | (with_reducible refine (sv_ls (by first | omega | (simp only [List.length_set]; omega))).trans ?_; exact rfl) | with_reducible refine (List.getElem?_set_ne (by decide)).trans ?_)) ?_
      refine v_iload_n dX13_isThere_37 rfl 0 rfl ?_
      refine v_ialdS (v := nI (wy.getD k 0)) dX13_isThere_38 (by repeat (first | with_reducible assumption | (with_reducible refine sv_us.trans ?_; exact rfl) | with_reducible refine (sv_un (by omega)).trans ?_)) (vp_in_nI (by omega) (by omega)) (by rw [nI_clamp (by omega)]; exact s3 k hkl) ?_
      rw [show (1600 : Int32) = nI 1600 from rfl, nI_add]
      refine v_iast dX13_isThere_39 (by repeat (first | with_reducible assumption | (with_reducible refine sv_us.trans ?_; exact rfl) | with_reducible refine (sv_un (by omega)).trans ?_)) (vp_in_nI (by omega) (by omega)) ?_
      refine v_iinc (j := 0) (L' := [(2, _), (1, _), (0, _)]) (v := nI (k + 1)) dX13_isThere_40 rfl (nI_1 _) (Nat.le_of_ble_eq_true rfl) rfl ?_
      refine v_goto (tgt := 16) dX13_isThere_43 (by decide) ?_
      refine v_sub (L' := [(2, _), (1, _), (0, _)]) [0, 1, 2] rfl ?_
      rw [nI_clamp (show 1600 + k < 2 ^ 31 by omega)]
      refine ih (k + 1) _ (upd fw (1600 + k) (nI (wy.getD k 0))) (by omega) sv_us (fun j hj => ?_) (fun a p9 => (sv_un p9).trans (frh a p9))
      by_cases e9 : j = k
      · subst e9; exact if_pos rfl
      · exact (if_neg (by omega)).trans (a2 j (by omega))

set_option maxHeartbeats 4000000 in
set_option maxRecDepth 100000 in
theorem m_isThere (G : sv_G) (z b nc np pl : Nat) (R : Nat → Bool) (hm p3 p4 sz : Nat → Nat) (ly vo : Nat → Int32) (mp : Nat → mvT) (X Y : Nat → Nat → Int) (hb : sv_h) (fs0 : List Value) (hq0 : mfq_ b nc np pl fs0) (MY : myl_ G hb b nc np pl R hm p3 p4 sz ly vo mp X Y) (r : Nat) (hr : r < 1500) (x0 y0 x1 y1 aI eI m : Int) (tc : Nat) (hx4 : (-200000 ≤ x0 ∧ x0 ≤ 200000) ∧ (-200000 ≤ y0 ∧ y0 ≤ 200000) ∧ (-200000 ≤ x1 ∧ x1 ≤ 200000) ∧ (-200000 ≤ y1 ∧ y1 ≤ 200000)) (FL : List (List Int64)) (hF15 : FL.length ≤ 1500) (f64 : fs0[64]? = some (.int (nI FL.length))) (ft : Nat → Int64) (A59 : ab_J G hb (b + 259) 10500 ft) (hft : ∀ k9 j9, k9 < FL.length → j9 < 7 → ft (7 * k9 + j9) = (FL.getD k9 []).getD j9 0) (hMBw : ∀ w : List Nat, (∀ i, i ∈ w → i < pl) → w.length < 16 → ∀ x y : Int, -200000 ≤ x ∧ x ≤ 200000 → -200000 ≤ y ∧ y ≤ 200000 → (-1000000000 ≤ (mvA (mvW mp w) (x, y)).1 ∧ (mvA (mvW mp w) (x, y)).1 ≤ 1000000000) ∧ (-1000000000 ≤ (mvA (mvW mp w) (x, y)).2 ∧ (mvA (mvW mp w) (x, y)).2 ≤ 1000000000)) (wy : List Nat) (hwp : ∀ i, i ∈ wy → i < pl) (hw16 : wy.length < 16) (h : sv_h) (fs : List Value) (hm9 : h (b + 220) = some (.inr (11, fs))) (hq : mfq_ b nc np pl fs) (MYh : myl_ G h b nc np pl R hm p3 p4 sz ly vo mp X Y) (f64h : fs[64]? = some (.int (nI FL.length))) (A59h : ab_J G h (b + 259) 10500 ft) (f41 : fs[41]? = some (.int (nI wy.length))) (MS : mst_ G h b wy) (A46 : ∃ f, ab_I G h (b + 246) 1616 f) (gt : Nat → Int64) (t41 : ab_J G h (b + 241) 36048 gt) (hrow : (gt (12 * r + 4) = jN aI ∧ gt (12 * r + 5) = jN eI ∧ gt (12 * r + 6) = jN m ∧ gt (12 * r + 7) = jN (tc : Int)) ∧ gt (12 * r + 8) = jN x0 ∧ gt (12 * r + 9) = jN y0 ∧ gt (12 * r + 10) = jN x1 ∧ gt (12 * r + 11) = jN y1) (VL : List (List Int64)) (mt : Nat → Int32) (A60 : ab_Z G h (b + 260) 1500 mt) (hmt : ∀ i9, i9 < FL.length → mt i9 = bI ((fun i9 => (VL).any (fun x => alk (FL.getD i9 []) x 7)) i9)) : CT G mX13_isThere [.ref (b + 220), .int (nI (12 * r))] h z (fun v h1 z1 => v = some (.int (bI (FL.any (fun y => alk y (xrW mp x0 y0 x1 y1 aI eI m (tc : Int) wy) 7)))) ∧ z1 = z ∧ ∃ fs1, h1 (b + 220) = some (.inr (11, fs1)) ∧ fs1.length = 71 ∧ fsE [52, 53, 60, 61] fs fs1 ∧ (∃ gt1, ab_J G h1 (b + 241) 36048 gt1 ∧ ∀ a, ¬ (12 * r ≤ a ∧ a < 12 * r + 4) → gt1 a = gt a) ∧ (∃ mt1, ab_Z G h1 (b + 260) 1500 mt1 ∧ ∀ i9, i9 < FL.length → mt1 i9 = bI ((fun i9 => (VL ++ [(xrW mp x0 y0 x1 y1 aI eI m (tc : Int) wy)]).any (fun x => alk (FL.getD i9 []) x 7)) i9)) ∧ (∃ f, ab_I G h1 (b + 246) 1616 f) ∧ ∀ a, a ≠ b + 220 → a ≠ b + 241 → a ≠ b + 246 → a ≠ b + 260 → h1 a = h a) := by
  refine CT.of (by decide +kernel) rfl rfl (Nat.le_of_ble_eq_true rfl) ?_
  have hlen : fs.length = 71 := hq.1
  have f_deep := f41
  obtain ⟨f46, v46⟩ := A46
  have hqI := hq.to (S := [52, 53, 60, 61]) (fs1 := ((fs.set 60 (.int 100)).set 61 (.int (nI wy.length)))) (by rw [List.length_set, List.length_set]; exact hq.1) ((fsE.rf.st (by decide)).st (by decide)) (by decide)
  refine v_aload_n dX13_isThere_0 rfl 0 rfl ?_
  refine v_bipush (v := 100) dX13_isThere_1 (by decide) ?_
  refine v_putf 60 (fs' := _) (ci := 11) (C := RX13) (T := TX13) (N := 71) (ty := .int) rfl iwX13_isThere_X13 tyX13 tyX13_ok nmX13 (Nat.le_of_ble_eq_true rfl) (by decide +kernel) rfl rfl dX13_isThere_3 rfl rfl (by repeat (first | with_reducible assumption | (with_reducible refine sv_us.trans ?_; exact rfl) | with_reducible refine (sv_un (by omega)).trans ?_)) (by first | omega | (simp only [List.length_set]; omega)) rfl ?_
  refine v_aload_n dX13_isThere_6 rfl 0 rfl ?_
  refine v_aload_n dX13_isThere_7 rfl 0 rfl ?_
  refine v_getf 41 (ci := 11) (C := RX13) (T := TX13) (N := 71) rfl iwX13_isThere_X13 (Nat.le_of_ble_eq_true rfl) (by decide +kernel) dX13_isThere_8 (by repeat (first | with_reducible assumption | (with_reducible refine sv_us.trans ?_; exact rfl) | with_reducible refine (sv_un (by omega)).trans ?_)) (by repeat (first | with_reducible assumption | (with_reducible refine (sv_ls (by first | omega | (simp only [List.length_set]; omega))).trans ?_; exact rfl) | with_reducible refine (List.getElem?_set_ne (by decide)).trans ?_)) ?_
  refine v_putf 61 (fs' := _) (ci := 11) (C := RX13) (T := TX13) (N := 71) (ty := .int) rfl iwX13_isThere_X13 tyX13 tyX13_ok nmX13 (Nat.le_of_ble_eq_true rfl) (by decide +kernel) rfl rfl dX13_isThere_11 rfl rfl (by repeat (first | with_reducible assumption | (with_reducible refine sv_us.trans ?_; exact rfl) | with_reducible refine (sv_un (by omega)).trans ?_)) (by first | omega | (simp only [List.length_set]; omega)) rfl ?_
  refine v_iconst (v := 0) dX13_isThere_14 (by decide) ?_
  refine v_istore_n (L' := [(2, _), (0, _), (1, _)]) dX13_isThere_15 rfl (Nat.le_of_ble_eq_true rfl) rfl ?_
  refine v_sub (L' := [(2, _), (1, _), (0, _)]) [0, 2, 1] rfl ?_
  refine l_itW G _ _ b nc np pl wy hw16 _ _ ((fs.set 60 (.int 100)).set 61 (.int (nI wy.length))) hqI sv_us ((List.getElem?_set_ne (by decide)).trans ((List.getElem?_set_ne (by decide)).trans f41)) (MS.kp ((sv_un (by omega)).trans (sv_un (by omega)))) (fun h2 fw2 v1 v2 v3 => ?_) wy.length 0 _ f46 (Nat.zero_add _) (((sv_un (by omega)).trans (sv_un (by omega))).trans v46) (fun j hj => absurd hj (Nat.not_lt_zero j)) (fun _ _ => rfl)
  have hm2 := (v3 (b + 220) (by omega)).trans sv_us
  refine v_aload_n dX13_isThere_46 rfl 1 rfl ?_
  refine v_iload_n dX13_isThere_47 rfl 0 rfl ?_
  refine v_callVq (M' := mX13_layOut) (n := 1) (As := [_]) (ci := 11) (r := (RX13, TX13, 71)) gX13_isThere_X13_layOut rfl (by decide +kernel) ⟨(Nat.le_of_ble_eq_true rfl), (Nat.le_of_ble_eq_true rfl)⟩ rfl rfl dX13_isThere_48 rfl ⟨(Nat.le_of_ble_eq_true rfl), (Nat.le_of_ble_eq_true rfl)⟩ (Nat.le_of_ble_eq_true rfl) (by first | with_reducible assumption) rfl (ct_lm G _ b nc np pl R hm p3 p4 sz ly vo mp X Y hb fs0 hq0 MY r hr x0 y0 x1 y1 aI eI m tc hx4 FL hF15 f64 ft A59 hft hMBw wy hwp hw16 h2 ((fs.set 60 (.int 100)).set 61 (.int (nI wy.length))) hm2 hqI (MYh.kp (fun a p1 p2 => (v3 a (by omega)).trans ((sv_un (by omega)).trans (sv_un (by omega))))) ((List.getElem?_set_ne (by decide)).trans ((List.getElem?_set_ne (by decide)).trans f64h)) (((v3 _ (by omega)).trans ((sv_un (by omega)).trans (sv_un (by omega)))).trans A59h) (.int 100) ((List.getElem?_set_ne (by decide)).trans (sv_ls (by omega))) (sv_ls (by rw [List.length_set]; omega)) fw2 v1 (fun _ => ⟨rfl, v2⟩) gt (((v3 _ (by omega)).trans ((sv_un (by omega)).trans (sv_un (by omega)))).trans t41) hrow VL mt (((v3 _ (by omega)).trans ((sv_un (by omega)).trans (sv_un (by omega)))).trans A60) hmt) (fun v9 h3 z3 hq9 => ?_)
  obtain ⟨rfl, rfl, ⟨fs3, u1, u2, u3⟩, ⟨gt3, w1, w2, w3⟩, u4⟩ := hq9
  refine v_aload_n dX13_isThere_51 rfl 1 rfl ?_
  refine v_iload_n dX13_isThere_52 rfl 0 rfl ?_
  refine v_callVq (M' := mX13_mark) (n := 1) (As := [_]) (ci := 11) (r := (RX13, TX13, 71)) gX13_isThere_X13_mark rfl (by decide +kernel) ⟨(Nat.le_of_ble_eq_true rfl), (Nat.le_of_ble_eq_true rfl)⟩ rfl rfl dX13_isThere_53 rfl ⟨(Nat.le_of_ble_eq_true rfl), (Nat.le_of_ble_eq_true rfl)⟩ (Nat.le_of_ble_eq_true rfl) (by first | with_reducible assumption) rfl (m_mark G _ b nc np pl h3 fs3 (hqI.to u2 u3 (by decide)) u1 FL hF15 ((u3 64 (by decide)).trans ((List.getElem?_set_ne (by decide)).trans ((List.getElem?_set_ne (by decide)).trans f64h))) ft ((u4 _ (by omega) (by omega)).trans (((v3 _ (by omega)).trans ((sv_un (by omega)).trans (sv_un (by omega)))).trans A59h)) hft r hr gt3 w1 (xrW mp x0 y0 x1 y1 aI eI m (tc : Int) wy) w2 (fun i9 => (VL).any (fun x => alk (FL.getD i9 []) x 7)) mt ((u4 _ (by omega) (by omega)).trans (((v3 _ (by omega)).trans ((sv_un (by omega)).trans (sv_un (by omega)))).trans A60)) hmt) (fun v9 h4 z4 hq9 => ?_)
  obtain ⟨rfl, rfl, ⟨mt4, m1, m2⟩, m3⟩ := hq9
  exact v_iret rfl dX13_isThere_56 (Nat.le_of_ble_eq_true rfl) (Nat.le_of_ble_eq_true rfl) (bI_nar _) ⟨rfl, rfl, fs3, (m3 _ (by omega)).trans u1, u2, ((fsE.rf.st (by decide)).st (by decide)).tr (u3.up (by decide)), ⟨gt3, (m3 _ (by omega)).trans w1, w3⟩, ⟨mt4, m1, fun i9 q9 => (m2 i9 q9).trans (by show bI (VL.any _ || _) = bI ((VL ++ [_]).any _); rw [List.any_append]; show _ = bI (_ || (_ || false)); rw [Bool.or_false])⟩, ⟨fw2, (m3 _ (by omega)).trans ((u4 _ (by omega) (by omega)).trans v1)⟩, fun a p1 p2 p3_ p4_ => (m3 a p4_).trans ((u4 a p1 p2).trans ((v3 a p3_).trans ((sv_un p1).trans (sv_un p1))))⟩

