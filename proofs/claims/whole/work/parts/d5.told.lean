section GU
variable {gu : Nat → Int64}
theorem gD_last (E : List (List Int64)) (r : List Int64) : r = (E ++ [r]).getD E.length [] := by
  rw [List.getD_eq_getElem?_getD, List.getElem?_append_right (Nat.le_refl _), Nat.sub_self]; rfl
theorem gD_left (E : List (List Int64)) (r : List Int64) {k : Nat} (h : k < E.length) : E.getD k [] = (E ++ [r]).getD k [] := by
  rw [List.getD_eq_getElem?_getD, List.getD_eq_getElem?_getD, List.getElem?_append_left h]
theorem rgm_s {α : Type} (F : Nat → List α) (n : Nat) : (List.range (n + 1)).flatMap F = (List.range n).flatMap F ++ F n := by
  rw [List.range_succ, List.flatMap_append, List.flatMap_cons, List.flatMap_nil, List.append_nil]
/-- the model has told E -/
def mT_ (gu : Nat → Int64) (G : sv_G) (h : sv_h) (b : Nat) (fs : List Value) (E : List (List Int64)) : Prop := fs[28]? = some (.int (nI (min E.length 1500))) ∧ fs[29]? = some (.int (if E.length ≤ 1500 then 0 else 1)) ∧ ∃ gt, ab_J G h (b + 241) 36048 gt ∧ (E.length ≤ 1500 → ∀ k, k < E.length → ∀ j, j < 12 → gt (12 * k + j) = (E.getD k []).getD j 0) ∧ ∀ a, 18000 ≤ a → gt a = gu a
/-- rule ri of the model -/
def mru_ (G : sv_G) (h : sv_h) (b ri kd : Nat) (l1 l2 x3 x4 x5 x6 : Int32) : Prop := ri < 40 ∧ kd < 11 ∧ (∃ f, ab_I G h (b + 233) 40 f ∧ f ri = nI kd) ∧ (∃ f, ab_I G h (b + 234) 40 f ∧ f ri = l1) ∧ (∃ f, ab_I G h (b + 235) 40 f ∧ f ri = l2) ∧ (∃ f, ab_J G h (b + 236) 40 f ∧ f ri = jN x3.toInt) ∧ (∃ f, ab_J G h (b + 237) 40 f ∧ f ri = jN (lrn x4).toInt) ∧ (∃ f, ab_J G h (b + 238) 40 f ∧ f ri = jN x5.toInt) ∧ (∃ f, ab_J G h (b + 239) 40 f ∧ f ri = jN x6.toInt)
/-- k polygons as the model has loaded them -/
def mld_ (G : sv_G) (h : sv_h) (b k : Nat) (n pg : Nat → Nat) (cc : Nat → Nat → Int × Int) : Prop := ∃ (fsd fo ft ff : Nat → Int32) (gx gy gp gl gh : Nat → Int64), ab_I G h (b + 249) 2 fsd ∧ ab_J G h (b + 250) 34 gx ∧ ab_J G h (b + 251) 34 gy ∧ ab_Z G h (b + 252) 2 ft ∧ ab_I G h (b + 253) 32 ff ∧ ab_J G h (b + 254) 32 gp ∧ ab_J G h (b + 255) 32 gl ∧ ab_J G h (b + 256) 32 gh ∧ ab_I G h (b + 257) 2 fo ∧ ∀ w, w < k → fsd w = nI (n w) ∧ fo w = nI (pg w) ∧ ft w = (if 0 < twS (cc w) (n w) then 1 else 0) ∧ (∀ j, j ≤ n w → gx (17 * w + j) = jN (cc w j).1 ∧ gy (17 * w + j) = jN (cc w j).2) ∧ ∀ i, i < n w → ff (16 * w + i) = nI (fcM (twS (cc w) (n w)) (cc w) i) ∧ gp (16 * w + i) = jN (itM (cc w) i).1 ∧ gl (16 * w + i) = jN (itM (cc w) i).2.1 ∧ gh (16 * w + i) = jN (itM (cc w) i).2.2
/-- what is loaded is in order -/
def mlk_ (k : Nat) (n pg : Nat → Nat) (cc : Nat → Nat → Int × Int) : Prop := k ≤ 2 ∧ ∀ w, w < k → (1 ≤ n w ∧ n w ≤ 16) ∧ pg w < 64 ∧ cbd (cc w) (n w + 1)
theorem itM_b {C : Nat → Int × Int} {n k : Nat} (h : cbd C (n + 1)) (hk : k < n) : (-200000 ≤ (itM C k).1 ∧ (itM C k).1 ≤ 200000) ∧ (-200000 ≤ (itM C k).2.1 ∧ (itM C k).2.1 ≤ 200000) ∧ (-200000 ≤ (itM C k).2.2 ∧ (itM C k).2.2 ≤ 200000) := by
  have a := h k (by omega)
  have b := h (k + 1) (by omega)
  unfold itM
  split <;> (dsimp only; omega)
theorem fcM_4 (s : Int) (C : Nat → Int × Int) (k : Nat) : fcM s C k < 4 := by
  unfold fcM toM
  repeat (first | omega | split)
theorem fv_rem : ∀ f, f < 4 → nI f - nI f / 2 * 2 = nI (f % 2) := by decide
theorem nI_inj4 : ∀ f, f < 4 → ∀ g, g < 4 → nI f = nI g → f = g := by decide
theorem upr_2 : ∀ f, f < 4 → upr f = decide (nI (f % 2) = 0) := by decide
/-- the rows between a side of the one and a side of the other -/
def gpR (M : mvT) (fV fW : Nat) (near lim lr : Int) (en : Int32) (a c hmI : Int) (f g : Nat → Nat) (s t : Nat → iT) (i j : Nat) : List (List Int64) := if f i = fV ∧ g j = fW then (acR (upr fV) near lim lr en a c hmI (s i) (t j)).map (mvR M) else []
def gpL (M : mvT) (fV fW : Nat) (near lim lr : Int) (en : Int32) (a c hmI : Int) (f g : Nat → Nat) (s t : Nat → iT) (n m : Nat) : List (List Int64) := (List.range n).flatMap (fun i => (List.range m).flatMap (fun j => gpR M fV fW near lim lr en a c hmI f g s t i j))
set_option maxHeartbeats 4000000 in
set_option maxRecDepth 100000 in
theorem m_tell (G : sv_G) (z b nc np pl : Nat) (R : Nat → Bool) (hm p3 p4 sz : Nat → Nat) (ly vo : Nat → Int32) (mp : Nat → mvT) (X Y : Nat → Nat → Int) (hb : sv_h) (fs0 : List Value) (hq0 : mfq_ b nc np pl fs0) (MY : myl_ G hb b nc np pl R hm p3 p4 sz ly vo mp X Y) (O : List (List Nat × Nat)) (MO : moc_ G hb b O) (o : Nat) (ho : o < O.length) (how : ∀ i, i ∈ (O.getD o ([], 0)).1 → i < pl) (d : Nat) (hd : d ≤ (O.getD o ([], 0)).1.length) (h60 : fs0[60]? = some (.int (nI o))) (h61 : fs0[61]? = some (.int (nI d))) (mc : Nat) (hmc : mc < 100) (h62 : fs0[62]? = some (.int (nI mc))) (hMB : ∀ x y : Int, -200000 ≤ x ∧ x ≤ 200000 → -200000 ≤ y ∧ y ≤ 200000 → (-1000000000 ≤ (mvA (mvW mp ((O.getD o ([], 0)).1.take d)) (x, y)).1 ∧ (mvA (mvW mp ((O.getD o ([], 0)).1.take d)) (x, y)).1 ≤ 1000000000) ∧ (-1000000000 ≤ (mvA (mvW mp ((O.getD o ([], 0)).1.take d)) (x, y)).2 ∧ (mvA (mvW mp ((O.getD o ([], 0)).1.take d)) (x, y)).2 ≤ 1000000000)) (h : sv_h) (fs : List Value) (hm9 : h (b + 220) = some (.inr (11, fs))) (hl : fs.length = 71) (hE : fsE [28, 29, 52, 53] fs0 fs) (fr : (∀ a, a ≠ b + 220 → a ≠ b + 241 → h a = hb a)) (E : List (List Int64)) (T : mT_ gu G h b fs E) (x0 y0 x1 y1 a c m : Int) (ha : -1000000 ≤ a ∧ a ≤ 1000000) (hc : -1000000 ≤ c ∧ c ≤ 1000000) (b0 : -200000 ≤ x0 ∧ x0 ≤ 200000) (b1 : -200000 ≤ y0 ∧ y0 ≤ 200000) (b2 : -200000 ≤ x1 ∧ x1 ≤ 200000) (b3 : -200000 ≤ y1 ∧ y1 ≤ 200000) : CT G mX13_tell [.ref (b + 220), .long (jN x0), .long (jN y0), .long (jN x1), .long (jN y1), .int (iN a), .int (iN c), .long (jN m)] h z (fun v9 h1 z1 => v9 = none ∧ z1 = z ∧ ∃ fs1, h1 (b + 220) = some (.inr (11, fs1)) ∧ fs1.length = 71 ∧ fsE [28, 29, 52, 53] fs0 fs1 ∧ (∀ a, a ≠ b + 220 → a ≠ b + 241 → h1 a = hb a) ∧ mT_ gu G h1 b fs1 (E ++ [mvR (mvW mp ((O.getD o ([], 0)).1.take d)) (rwI x0 y0 x1 y1 a c m (mc : Int))])) := by
  obtain ⟨t1, t2, gt, t3, t4, t5⟩ := T
  have m0 := hMB x0 y0 b0 b1
  have m1 := hMB x1 y1 b2 b3
  by_cases hlt : E.length < 1500
  · rw [Nat.min_eq_left (by omega)] at t1
    refine (m_tellA G z b nc np pl R hm p3 p4 sz ly vo mp X Y h fs (hq0.to hl hE (by decide)) (MY.kp (fun a p1 p2 => fr a (by omega) (by omega))) O (MO.kp (fun a p1 p2 => fr a (by omega) (by omega))) o ho how d hd ((hE 60 (by decide)).trans h60) ((hE 61 (by decide)).trans h61) hm9 gt t3 mc hmc ((hE 62 (by decide)).trans h62) E.length hlt t1 x0 y0 x1 y1 a c m ha hc (by omega) (by omega) (by omega) (by omega) m0.1 m0.2 m1.1 m1.2).mono (fun v h1 z1 _ hq => ?_)
    obtain ⟨rfl, rfl, ⟨fs1, u1, u2, u3, u4⟩, ⟨gt1, v1, v2, v3⟩, u5⟩ := hq
    refine ⟨rfl, rfl, fs1, u1, u2, hE.tr (u3.up (by decide)), fun a p1 p2 => (u5 a p1 p2).trans (fr a p1 p2), ?_, ?_, gt1, v1, fun _ k hk j hj => ?_, fun a9 p9 => (v3 a9 (by omega)).trans (t5 a9 p9)⟩
    · rw [List.length_append, Nat.min_eq_left (show E.length + [_].length ≤ 1500 from hlt)]; exact u4
    · rw [List.length_append, if_pos (show E.length + [_].length ≤ 1500 from hlt)]
      rw [if_pos (by omega)] at t2
      exact (u3 29 (by decide)).trans t2
    · rw [List.length_append] at hk
      have hk' : k < E.length + 1 := hk
      by_cases e9 : k = E.length
      · subst e9
        rw [v2 j hj]
        exact congrArg (fun l => List.getD l j 0) (gD_last E _)
      · rw [v3 _ (by omega), t4 (by omega) k (by omega) j hj]
        exact congrArg (fun l => List.getD l j 0) (gD_left E _ (by omega))
  · rw [Nat.min_eq_right (by omega)] at t1
    refine (m_tellB G z b nc np pl h fs (hq0.to hl hE (by decide)) hm9 1500 rfl t1 (jN x0) (jN y0) (jN x1) (jN y1) (jN m) (iN a) (iN c)).mono (fun v h1 z1 _ hq => ?_)
    obtain ⟨rfl, rfl, ⟨fs1, u1, u2, u3, u4⟩, u5⟩ := hq
    refine ⟨rfl, rfl, fs1, u1, u2, hE.tr (u3.up (by decide)), fun a p1 p2 => (u5 a p1).trans (fr a p1 p2), ?_, ?_, gt, (u5 _ (by omega)).trans t3, fun h9 => absurd h9 ?_, t5⟩
    · rw [List.length_append, Nat.min_eq_right (show 1500 ≤ E.length + [_].length from by show 1500 ≤ E.length + 1; omega)]
      exact (u3 28 (by decide)).trans t1
    · rw [List.length_append, if_neg (show ¬ E.length + [_].length ≤ 1500 from by show ¬ E.length + 1 ≤ 1500; omega)]
      exact u4
    · rw [List.length_append]
      show ¬ E.length + 1 ≤ 1500
      omega
end GU
