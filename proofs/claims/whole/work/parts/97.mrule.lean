set_option maxRecDepth 20000 in
theorem ggX13_readRule_X13_kindOf : GoodIn wsX13_readRule wsX13_kindOf := goodIn_r _ [50, 51, 52, 16, 53, 21, 22, 54, 55, 56] (by decide +kernel) (by decide +kernel)
set_option maxRecDepth 20000 in
theorem gX13_readRule_X13_kindOf : GoodIn wsX13_readRule (wsV RX13 433 RX13 yX13_kindOf wsX13_kindOf) := goodIn_app (goodIn_of _ (by decide +kernel)) ggX13_readRule_X13_kindOf
set_option maxRecDepth 20000 in
theorem ggX13_readRule_X13_condition : GoodIn wsX13_readRule wsX13_condition := goodIn_r _ [66, 5, 9, 11, 12, 4, 13, 14, 15, 16, 17, 18, 19, 20, 21, 22, 23, 24, 25, 51, 52, 53, 30, 31, 32, 33, 1, 34, 35, 36, 37, 38, 39, 40, 41, 42, 57, 58, 59, 60, 61, 62, 67, 68, 69, 70, 71, 72, 73, 74, 75, 76, 77, 78, 79, 80, 81, 82, 83, 84, 85, 86, 87, 88, 89, 90, 91, 92, 93, 94, 95, 96, 97, 98, 99, 100, 101, 102, 103, 104, 105, 106, 107, 108, 109, 110, 111, 112, 113, 114, 115, 116, 117, 118, 119, 120, 121, 122, 123, 124, 125, 126, 127, 128, 129, 130, 131, 132, 133, 134, 135, 136, 137] (by decide +kernel) (by decide +kernel)
set_option maxRecDepth 20000 in
theorem gX13_readRule_X13_condition : GoodIn wsX13_readRule (wsV RX13 445 RX13 yX13_condition wsX13_condition) := goodIn_app (goodIn_of _ (by decide +kernel)) ggX13_readRule_X13_condition

/-- the model's rows of rules -/
def ma_ (G : sv_G) (h : sv_h) (b : Nat) (gk ga gb : Nat → Int32) (gl gr gv ge nm : Nat → Int64) : Prop := ab_I G h (b + 233) 40 gk ∧ ab_I G h (b + 234) 40 ga ∧ ab_I G h (b + 235) 40 gb ∧ ab_J G h (b + 236) 40 gl ∧ ab_J G h (b + 237) 40 gr ∧ ab_J G h (b + 238) 40 gv ∧ ab_J G h (b + 239) 40 ge ∧ ab_J G h (b + 240) 20 nm
/-- what holds all along -/
def mx_ (b n : Nat) (tp : Nat → Int32) (fs : List Value) (ly : Int32) : Prop := n ≤ 600 ∧ (∀ i, i < n → tp i = 10 ∨ (32 ≤ tp i ∧ tp i ≤ 126)) ∧ fs[1]? = some (.int ly) ∧ fs[19]? = some (.ref (b + 233)) ∧ fs[20]? = some (.ref (b + 234)) ∧ fs[21]? = some (.ref (b + 235)) ∧ fs[22]? = some (.ref (b + 236)) ∧ fs[23]? = some (.ref (b + 237)) ∧ fs[24]? = some (.ref (b + 238)) ∧ fs[25]? = some (.ref (b + 239)) ∧ fs[26]? = some (.ref (b + 240))
/-- the model as it reads, at word j -/
def mh_ (G : sv_G) (b n : Nat) (tp : Nat → Int32) (fs : List Value) (h0 h : sv_h) (j : Nat) (r : Int32) (gk ga gb : Nat → Int32) (gl gr gv ge nm : Nat → Int64) : Prop := (∃ F, h (b + 220) = some (.inr (11, F)) ∧ ms_ b n tp fs F j r) ∧ (∃ f, ab_I G h (b + 232) 600 f ∧ ∀ i, i < n → f i = tp i) ∧ ma_ G h b gk ga gb gl gr gv ge nm ∧ ∀ w, w ≠ b + 220 → ¬ (b + 233 ≤ w ∧ w ≤ b + 240) → h w = h0 w
theorem mh_.next {G : sv_G} {b n : Nat} {tp : Nat → Int32} {fs : List Value} {h0 h h1 : sv_h} {j : Nat} {r : Int32} {gk ga gb : Nat → Int32} {gl gr gv ge nm : Nat → Int64} (Hh : mh_ G b n tp fs h0 h j r gk ga gb gl gr gv ge nm) {F1 : List Value} {j1 : Nat} {r1 : Int32} (k1 : h1 (b + 220) = some (.inr (11, F1))) (k2 : ms_ b n tp fs F1 j1 r1) (k3 : ∀ w, w ≠ b + 220 → h1 w = h w) : mh_ G b n tp fs h0 h1 j1 r1 gk ga gb gl gr gv ge nm := by
  obtain ⟨_, ⟨f, t1, t2⟩, ⟨a1, a2, a3, a4, a5, a6, a7, a8⟩, fr⟩ := Hh
  exact ⟨⟨F1, k1, k2⟩, ⟨f, (k3 _ (by omega)).trans t1, t2⟩, ⟨(k3 _ (by omega)).trans a1, (k3 _ (by omega)).trans a2, (k3 _ (by omega)).trans a3, (k3 _ (by omega)).trans a4, (k3 _ (by omega)).trans a5, (k3 _ (by omega)).trans a6, (k3 _ (by omega)).trans a7, (k3 _ (by omega)).trans a8⟩, fun w q1 q2 => (k3 w q1).trans (fr w q1 q2)⟩
theorem m_takeH (G : sv_G) (h0 h : sv_h) (z b n : Nat) (tp : Nat → Int32) (fs : List Value) (ly : Int32) (X : mx_ b n tp fs ly) (j : Nat) (r : Int32) (gk ga gb : Nat → Int32) (gl gr gv ge nm : Nat → Int64) (Hh : mh_ G b n tp fs h0 h j r gk ga gb gl gr gv ge nm) (hv : Int32) (hr : r = 0 ∨ r = 1) (hh : hv = 0 ∨ hv = 1) : CT G mX13_take_ [.ref (b + 220), .int hv] h z (fun v h1 z1 => v = none ∧ z1 = z ∧ ∃ (j1 : Nat) (r1 : Int32), mh_ G b n tp fs h0 h1 j1 r1 gk ga gb gl gr gv ge nm ∧ ((r1 = 1 ∧ (r = 1 ∧ hv = 1) ∧ j1 = j + 1) ∨ (r1 = 0 ∧ ¬ (r = 1 ∧ hv = 1) ∧ j1 = j))) := by
  obtain ⟨⟨F, hm, H⟩, ⟨f, ht2, htp⟩, ⟨a1, a2, a3, a4, a5, a6, a7, a8⟩, fr⟩ := id Hh
  refine (m_takeJ G h z b n fs F f tp j r ht2 htp X.1 hm H hv hr hh).mono (fun v h1 z1 _ hq => ?_)
  obtain ⟨q1, q2, ⟨F1, j1, r1, q3, q4, q5⟩, q6⟩ := hq
  exact ⟨q1, q2, j1, r1, Hh.next q3 q4 q6, q5⟩
theorem m_numberH (G : sv_G) (h0 h : sv_h) (z b n : Nat) (tp : Nat → Int32) (fs : List Value) (ly : Int32) (X : mx_ b n tp fs ly) (j : Nat) (r : Int32) (gk ga gb : Nat → Int32) (gl gr gv ge nm : Nat → Int64) (Hh : mh_ G b n tp fs h0 h j r gk ga gb gl gr gv ge nm) (c : Int32) (hr : r = 0 ∨ r = 1) : CT G mX13_number [.ref (b + 220), .long c.toInt64] h z (fun v h1 z1 => v = some (.long (if wS n tp j = 3 then wV n tp j else 0)) ∧ z1 = z ∧ ∃ (j1 : Nat) (r1 : Int32), mh_ G b n tp fs h0 h1 j1 r1 gk ga gb gl gr gv ge nm ∧ ((r1 = 1 ∧ (r = 1 ∧ w_nu n tp c j) ∧ j1 = j + 1) ∨ (r1 = 0 ∧ ¬ (r = 1 ∧ w_nu n tp c j) ∧ j1 = j))) := by
  obtain ⟨⟨F, hm, H⟩, ⟨f, ht2, htp⟩, ⟨a1, a2, a3, a4, a5, a6, a7, a8⟩, fr⟩ := id Hh
  refine (m_numberJ G h z b n fs F f tp j r ht2 htp X.1 hm H X.2.1 c hr).mono (fun v h1 z1 _ hq => ?_)
  obtain ⟨q1, q2, ⟨F1, j1, r1, q3, q4, q5⟩, q6⟩ := hq
  exact ⟨q1, q2, j1, r1, Hh.next q3 q4 q6, q5⟩
theorem m_isH (G : sv_G) (h0 h : sv_h) (z b n : Nat) (tp : Nat → Int32) (fs : List Value) (ly : Int32) (X : mx_ b n tp fs ly) (j : Nat) (r : Int32) (gk ga gb : Nat → Int32) (gl gr gv ge nm : Nat → Int64) (Hh : mh_ G b n tp fs h0 h j r gk ga gb gl gr gv ge nm) (c : Int32) (hc : lx_so c = 4) : CT G mX13_is [.ref (b + 220), .int c] h z (fun v h1 z1 => v = some (.int (if w_sg n tp c j then 1 else 0)) ∧ h1 = h ∧ z1 = z) := by
  obtain ⟨⟨F, hm, H⟩, ⟨f, ht2, htp⟩, ⟨a1, a2, a3, a4, a5, a6, a7, a8⟩, fr⟩ := id Hh
  exact m_isJ G h z b n fs F f tp j r ht2 htp X.1 hm H c hc
theorem m_nameH (G : sv_G) (h0 h : sv_h) (z b n : Nat) (tp : Nat → Int32) (fs : List Value) (ly : Int32) (X : mx_ b n tp fs ly) (j : Nat) (r : Int32) (gk ga gb : Nat → Int32) (gl gr gv ge nm : Nat → Int64) (Hh : mh_ G b n tp fs h0 h j r gk ga gb gl gr gv ge nm) : CT G mX13_name [.ref (b + 220)] h z (fun v h1 z1 => v = some (.long (if wS n tp j = 2 then wV n tp j else 0)) ∧ h1 = h ∧ z1 = z) := by
  obtain ⟨⟨F, hm, H⟩, ⟨f, ht2, htp⟩, ⟨a1, a2, a3, a4, a5, a6, a7, a8⟩, fr⟩ := id Hh
  exact m_nameJ G h z b n fs F f tp j r ht2 htp X.1 hm H X.2.1
theorem rd_new_iff {n : Nat} {tp : Nat → Int32} {nm : Nat → Int64} {d j : Nat} : (0 < (if wS n tp j = 2 then wV n tp j else 0) ∧ d < 20 ∧ ∀ k, k < d → ¬ nm k = (if wS n tp j = 2 then wV n tp j else 0)) ↔ (d < 20 ∧ rd_new n tp nm d j) := by
  constructor
  · rintro ⟨h1, h2, h3⟩
    by_cases e : wS n tp j = 2
    · refine ⟨h2, e, fun i hi => ?_⟩
      have := h3 i hi
      rwa [if_pos e] at this
    · rw [if_neg e] at h1; exact absurd h1 (by decide)
  · rintro ⟨h1, h2, h3⟩
    rw [if_pos h2]
    exact ⟨w_pos h2, h1, h3⟩
theorem m_isNewH (G : sv_G) (h0 h : sv_h) (z b n : Nat) (tp : Nat → Int32) (fs : List Value) (ly : Int32) (X : mx_ b n tp fs ly) (j : Nat) (r : Int32) (gk ga gb : Nat → Int32) (gl gr gv ge nm : Nat → Int64) (Hh : mh_ G b n tp fs h0 h j r gk ga gb gl gr gv ge nm) (d : Nat) (hd : d ≤ 20) : CT G mX13_isNew [.ref (b + 220), .long (if wS n tp j = 2 then wV n tp j else 0), .int (nI d)] h z (fun v h1 z1 => v = some (.int (if d < 20 ∧ rd_new n tp nm d j then 1 else 0)) ∧ h1 = h ∧ z1 = z) := by
  obtain ⟨⟨F, hm, H⟩, ⟨f, ht2, htp⟩, ⟨a1, a2, a3, a4, a5, a6, a7, a8⟩, fr⟩ := id Hh
  refine (m_isNew G h z b d F _ nm H.1 hm ((H.2.2.2.2.2.2.2 26 (by decide) (by decide) (by decide) (by decide)).trans X.2.2.2.2.2.2.2.2.2.2) a8 hd).mono (fun v h1 z1 _ hq => ?_)
  obtain ⟨⟨w0, q1, q2⟩, q3⟩ := hq
  refine ⟨q1.trans ?_, q3⟩
  rcases q2 with ⟨e, p⟩ | ⟨e, p⟩
  · rw [e, if_pos (rd_new_iff.mp p)]
  · rw [e, if_neg (fun q => p (rd_new_iff.mpr q))]
theorem m_condH (G : sv_G) (h0 h : sv_h) (z b n : Nat) (tp : Nat → Int32) (fs : List Value) (ly : Int32) (X : mx_ b n tp fs ly) (j : Nat) (r : Int32) (gk ga gb : Nat → Int32) (gl gr gv ge nm : Nat → Int64) (Hh : mh_ G b n tp fs h0 h j r gk ga gb gl gr gv ge nm) (hr : r = 1) (rr : Nat) (hrr : rr < 40) (k x4 x5 x6 : Int32) (uk : gk rr = k) (u4 : gr rr = x4.toInt64) (u5 : gv rr = x5.toInt64) (u6 : ge rr = x6.toInt64) (v4 : x4 = -1 ∨ 0 ≤ x4) (v5 : x5 = -1 ∨ 0 ≤ x5) (v6 : x6 = -1 ∨ 0 ≤ x6) : CT G mX13_condition [.ref (b + 220), .int (nI rr)] h z (fun v h1 z1 => v = none ∧ z1 = z ∧ ∃ (gr1 gv1 ge1 : Nat → Int64) (j1 : Nat) (r1 : Int32), mh_ G b n tp fs h0 h1 j1 r1 gk ga gb gl gr1 gv1 ge1 nm ∧ (∀ i, i ≠ rr → gr1 i = gr i ∧ gv1 i = gv i ∧ ge1 i = ge i) ∧ ((r1 = 1 ∧ ¬ (cd_w n tp k x4 x5 x6 j) = 0 ∧ w_nu n tp 1000000000 (j + 1) ∧ j1 = j + 2 ∧ gr1 rr = (cd_x (cd_w n tp k x4 x5 x6 j) 1 x4 (w_nv n tp (j + 1))).toInt64 ∧ gv1 rr = (cd_x (cd_w n tp k x4 x5 x6 j) 2 x5 (w_nv n tp (j + 1))).toInt64 ∧ ge1 rr = (cd_x (cd_w n tp k x4 x5 x6 j) 3 x6 (w_nv n tp (j + 1))).toInt64) ∨ (r1 = 0 ∧ (((cd_w n tp k x4 x5 x6 j) = 0 ∧ j1 = j) ∨ (¬ (cd_w n tp k x4 x5 x6 j) = 0 ∧ ¬ w_nu n tp 1000000000 (j + 1) ∧ j1 = j + 1))))) := by
  subst hr
  obtain ⟨⟨F, hm, H⟩, ⟨f, ht2, htp⟩, ⟨a1, a2, a3, a4, a5, a6, a7, a8⟩, fr⟩ := id Hh
  refine (m_condition G h z b n fs F f tp j ht2 htp X.1 hm H X.2.1 rr hrr gk gr gv ge a1 a5 a6 a7 X.2.2.2.1 X.2.2.2.2.2.2.2.1 X.2.2.2.2.2.2.2.2.1 X.2.2.2.2.2.2.2.2.2.1 k x4 x5 x6 uk u4 u5 u6 v4 v5 v6).mono (fun v h1 z1 _ hq => ?_)
  obtain ⟨p1, p2, ⟨F1, gr1, gv1, ge1, j1, r1, p3, p4, p5, p6, p7, p8, p9⟩, p10⟩ := hq
  exact ⟨p1, p2, gr1, gv1, ge1, j1, r1, ⟨⟨F1, p3, p8⟩, ⟨f, (p10 _ (by omega) (by omega) (by omega) (by omega)).trans ht2, htp⟩, ⟨(p10 _ (by omega) (by omega) (by omega) (by omega)).trans a1, (p10 _ (by omega) (by omega) (by omega) (by omega)).trans a2, (p10 _ (by omega) (by omega) (by omega) (by omega)).trans a3, (p10 _ (by omega) (by omega) (by omega) (by omega)).trans a4, p4, p5, p6, (p10 _ (by omega) (by omega) (by omega) (by omega)).trans a8⟩, fun w q1 q2 => (p10 w q1 (by omega) (by omega) (by omega)).trans (fr w q1 q2)⟩, p7, p9⟩
/-- what the model has read behind rule d, from word j on -/
def mq_ (G : sv_G) (b n : Nat) (tp : Nat → Int32) (fs : List Value) (ly : Int32) (d j : Nat) (h0 : sv_h) (z : Nat) (gk ga gb : Nat → Int32) (gl gr gv ge nm : Nat → Int64) : Option Value → sv_h → Nat → Prop := fun v h1 z1 => v = none ∧ z1 = z ∧ ∃ (gk1 ga1 gb1 : Nat → Int32) (gl1 gr1 gv1 ge1 nm1 : Nat → Int64) (j1 : Nat) (r1 : Int32), mh_ G b n tp fs h0 h1 j1 r1 gk1 ga1 gb1 gl1 gr1 gv1 ge1 nm1 ∧ (∀ i, i ≠ 20 + d → gk1 i = gk i ∧ ga1 i = ga i ∧ gb1 i = gb i ∧ gl1 i = gl i ∧ gr1 i = gr i ∧ gv1 i = gv i ∧ ge1 i = ge i) ∧ (∀ i, i ≠ d → nm1 i = nm i) ∧
  ((r1 = 1 ∧ d < 20 ∧ ∃ x, rd_rl n tp ly nm d j = .inr (j1, x) ∧ nm1 d = wV n tp j ∧ gk1 (20 + d) = x 0 ∧ ga1 (20 + d) = x 1 ∧ gb1 (20 + d) = x 2 ∧ gl1 (20 + d) = (x 3).toInt64 ∧ gr1 (20 + d) = (if x 4 < 1 then 1 else x 4).toInt64 ∧ gv1 (20 + d) = (x 5).toInt64 ∧ ge1 (20 + d) = (x 6).toInt64) ∨ (r1 = 0 ∧ ((d = 20 ∧ j1 = j) ∨ (d < 20 ∧ rd_rl n tp ly nm d j = .inl j1))))
