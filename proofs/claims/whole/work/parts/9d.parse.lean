set_option maxRecDepth 20000 in
theorem ggX6_parse_X6_takeSign : GoodIn wsX6_parse wsX6_takeSign := goodIn_r _ [39, 5, 15, 6, 7, 8, 9, 10, 1, 2, 11, 12, 13, 14, 16, 17, 18, 19, 20, 21, 22, 131, 132, 133, 134, 135, 136, 137, 138, 139, 140, 141] (by decide +kernel) (by decide +kernel)
set_option maxRecDepth 20000 in
theorem gX6_parse_X6_takeSign : GoodIn wsX6_parse (wsV RX6 45 RX6 yX6_takeSign wsX6_takeSign) := goodIn_app (goodIn_of _ (by decide +kernel)) ggX6_parse_X6_takeSign
set_option maxRecDepth 20000 in
theorem ggX6_parse_X6_takeKind : GoodIn wsX6_parse wsX6_takeKind := goodIn_r _ [43, 44, 45, 46, 47, 48, 9, 49, 5, 2, 14, 11, 13, 50, 51, 52, 53, 54, 55, 56, 57, 58, 59, 60, 61, 62, 63, 64, 65, 66, 67, 68, 69, 70, 71, 72, 73, 74, 75, 76, 77, 78, 79, 80, 81, 82, 83, 84, 85, 86, 87, 88, 89, 90, 91, 92, 93, 94, 95, 96, 97, 98, 6, 7, 8, 10, 1, 12, 15, 16, 17, 18, 19, 20, 21, 22, 142, 143, 144, 145, 146, 147, 148, 149, 131, 132, 133, 134, 135, 136, 137, 138, 139, 140, 141] (by decide +kernel) (by decide +kernel)
set_option maxRecDepth 20000 in
theorem gX6_parse_X6_takeKind : GoodIn wsX6_parse (wsV RX6 49 RX6 yX6_takeKind wsX6_takeKind) := goodIn_app (goodIn_of _ (by decide +kernel)) ggX6_parse_X6_takeKind
set_option maxRecDepth 20000 in
theorem ggX6_parse_X6_takeLayers : GoodIn wsX6_parse wsX6_takeLayers := goodIn_r _ [102, 103, 104, 45, 105, 106, 107, 108, 109, 9, 110, 5, 15, 6, 7, 8, 10, 1, 2, 11, 12, 13, 14, 16, 17, 18, 19, 20, 21, 22, 131, 132, 133, 134, 135, 136, 137, 138, 139, 142, 143, 144, 145, 146, 147, 148, 149, 140, 141] (by decide +kernel) (by decide +kernel)
set_option maxRecDepth 20000 in
theorem gX6_parse_X6_takeLayers : GoodIn wsX6_parse (wsV RX6 52 RX6 yX6_takeLayers wsX6_takeLayers) := goodIn_app (goodIn_of _ (by decide +kernel)) ggX6_parse_X6_takeLayers
set_option maxRecDepth 20000 in
theorem ggX6_parse_X6_takeLimit : GoodIn wsX6_parse wsX6_takeLimit := goodIn_r _ [114, 115, 116, 107, 108, 109, 9, 110, 5, 15, 6, 7, 8, 10, 1, 2, 11, 12, 13, 14, 16, 17, 18, 19, 20, 21, 22, 142, 143, 144, 145, 146, 147, 148, 149, 131, 132, 133, 134, 135, 136, 137, 138, 139, 140, 141] (by decide +kernel) (by decide +kernel)
set_option maxRecDepth 20000 in
theorem gX6_parse_X6_takeLimit : GoodIn wsX6_parse (wsV RX6 55 RX6 yX6_takeLimit wsX6_takeLimit) := goodIn_app (goodIn_of _ (by decide +kernel)) ggX6_parse_X6_takeLimit
set_option maxRecDepth 20000 in
theorem ggX6_parse_X6_takeConditions : GoodIn wsX6_parse wsX6_takeConditions := goodIn_r _ [120, 5, 121, 122, 123, 9, 124, 45, 125, 126, 115, 127, 128, 129, 130, 46, 47, 48, 49, 2, 14, 11, 13, 50, 51, 52, 53, 54, 55, 56, 57, 58, 59, 60, 61, 62, 63, 64, 65, 66, 67, 68, 69, 70, 71, 72, 73, 74, 75, 76, 77, 78, 79, 80, 81, 82, 83, 84, 85, 86, 87, 88, 89, 90, 91, 92, 93, 94, 95, 96, 97, 98, 6, 7, 8, 10, 1, 12, 15, 16, 17, 18, 19, 20, 21, 22, 107, 108, 109, 110, 36, 37, 38, 39, 131, 132, 133, 134, 135, 136, 137, 138, 139, 142, 143, 144, 145, 146, 147, 148, 149, 140, 141] (by decide +kernel) (by decide +kernel)
set_option maxRecDepth 20000 in
theorem gX6_parse_X6_takeConditions : GoodIn wsX6_parse (wsV RX6 58 RX6 yX6_takeConditions wsX6_takeConditions) := goodIn_app (goodIn_of _ (by decide +kernel)) ggX6_parse_X6_takeConditions

/-- what holds all along -/
def cy_ (G : sv_G) (b n : Nat) (tp : Nat → Int32) (h0 : sv_h) (A : Nat) : Prop := n ≤ 600 ∧ (∀ i, i < n → tp i = 10 ∨ (32 ≤ tp i ∧ tp i ≤ 126)) ∧ h0 (b + 8) = some (.inr (7, [.ref (b + 9), .int (nI n)])) ∧ (∃ f, ab_I G h0 (b + 9) 600 f ∧ ∀ i, i < n → f i = tp i) ∧ (A = b + 11 ∨ A = b + 183) ∧ ∃ fq, ab_Q G h0 A 5 20 fq ∧ ∀ j, j < 20 → fq j = some (A + 1 + j)
/-- the drafts, and the rest of the heap as it was -/
def cv_ (G : sv_G) (b A : Nat) (h0 h : sv_h) : Prop := (∀ i, i < 20 → ∃ (n0 : Int64) (kd : Nat) (x1 x2 x3 x4 x5 x6 : Int32), kd < 11 ∧ h (A + 1 + i) = some (.inr (5, [.long n0, .ref (G.2.2.2.2.1 kd), .int x1, .int x2, .int x3, .int x4, .int x5, .int x6]))) ∧ ∀ w, w ≠ b + 10 → ¬ (A + 1 ≤ w ∧ w < A + 21) → h w = h0 w
/-- the class between two rules: d of them read, at word j -/
def cp_ (G : sv_G) (b n : Nat) (tp : Nat → Int32) (k : Int32) (A : Nat) (h0 h : sv_h) (j d : Nat) (nm : Nat → Int64) (r : Nat → Nat → Int32) : Prop := h (b + 10) = rd_at b k (nI d) A n tp j ∧ cv_ G b A h0 h ∧ ∀ i, i < d → ∃ kd, kd < 11 ∧ r 0 i = nI kd ∧ h (A + 1 + i) = some (.inr (5, [.long (nm i), .ref (G.2.2.2.2.1 kd), .int (r 1 i), .int (r 2 i), .int (r 3 i), .int (r 4 i), .int (r 5 i), .int (r 6 i)]))
theorem cw_.cv {G : sv_G} {b n : Nat} {tp : Nat → Int32} {k : Int32} {A d : Nat} {h0 h h1 : sv_h} {j : Nat} {n0 : Int64} {kd : Nat} {x1 x2 x3 x4 x5 x6 : Int32} (hd : d < 20) (hA : A = b + 11 ∨ A = b + 183) (H : cv_ G b A h0 h) (Hw : cw_ G b n tp k A d h h1 j n0 kd x1 x2 x3 x4 x5 x6) (hkd : kd < 11) : cv_ G b A h0 h1 := by
  obtain ⟨hrd, hru, fr⟩ := Hw
  refine ⟨fun i hi => ?_, fun w p q => (fr w p (by omega)).trans (H.2 w p q)⟩
  by_cases e : i = d
  · rw [e]; exact ⟨n0, kd, x1, x2, x3, x4, x5, x6, hkd, hru⟩
  · obtain ⟨m0, ke, y1, y2, y3, y4, y5, y6, r1, r2⟩ := H.1 i hi
    exact ⟨m0, ke, y1, y2, y3, y4, y5, y6, r1, (fr _ (by omega) (by omega)).trans r2⟩
theorem cp_.succ {G : sv_G} {b n : Nat} {tp : Nat → Int32} {k : Int32} {A d : Nat} {h0 h h1 : sv_h} {j j0 : Nat} {nm : Nat → Int64} {r : Nat → Nat → Int32} {n0 : Int64} {kd : Nat} {x1 x2 x3 x4 x5 x6 : Int32} (hd : d < 20) (hA : A = b + 11 ∨ A = b + 183) (H : cp_ G b n tp k A h0 h j0 d nm r) (Hw : cw_ G b n tp k A d h h1 j n0 kd x1 x2 x3 x4 x5 x6) (hkd : kd < 11) : cp_ G b n tp k A h0 (va_up h1 (b + 10) (rd_at b k (nI (d + 1)) A n tp j)) j (d + 1) (rd_un nm d n0) (rd_ut r d (rd_row (nI kd) x1 x2 x3 x4 x5 x6)) := by
  obtain ⟨hrd, hru, fr⟩ := id Hw
  have V1 := Hw.cv hd hA H.2.1 hkd
  refine ⟨sv_us, ⟨fun i hi => ?_, fun w p q => (sv_un p).trans (V1.2 w p q)⟩, fun i hi => ?_⟩
  · obtain ⟨m0, ke, y1, y2, y3, y4, y5, y6, r1, r2⟩ := V1.1 i hi
    exact ⟨m0, ke, y1, y2, y3, y4, y5, y6, r1, (sv_un (by omega)).trans r2⟩
  · by_cases e : i = d
    · refine ⟨kd, hkd, ?_, (sv_un (by omega)).trans ?_⟩
      · rw [rd_ut, if_pos e]; rfl
      · rw [e]
        simp only [rd_un, rd_ut, if_pos]
        exact hru
    · obtain ⟨ke, r1, r2, r3⟩ := H.2.2 i (by omega)
      refine ⟨ke, r1, ?_, (sv_un (by omega)).trans ((fr _ (by omega) (by omega)).trans ?_)⟩
      · rw [rd_ut, if_neg e]; exact r2
      · simp only [rd_un, rd_ut, if_neg e]
        exact r3
theorem w_go {n : Nat} {tp : Nat → Int32} : ∀ j, ¬ wS n tp j = 0 → j + 1 ≤ (lx_W n tp j).2 := by
  have key : ∀ j, ¬ wS n tp j = 0 → (lx_W n tp j).1 < (lx_W n tp j).2 := by
    intro j h
    have h1 : (lx_W n tp j).1 < n := by
      by_cases e : (lx_W n tp j).1 < n
      · exact e
      · exact absurd (w_end.mpr e) h
    obtain ⟨p, T⟩ := lx_W_ok n tp j
    rcases T.2 with ⟨r1, r2⟩ | ⟨r1, r3, r2⟩ | ⟨r1, _, r2⟩
    · omega
    · by_cases e : (lx_W n tp j).1 < (lx_W n tp j).2
      · exact e
      · have e2 : (lx_W n tp j).2 = (lx_W n tp j).1 := by have := r2.1; omega
        exact absurd (by rw [e2]) (r2.2.2.2 (by omega))
    · omega
  intro j
  induction j with
  | zero => intro h; have := key 0 h; omega
  | succ j ih =>
    intro h
    have k1 := key (j + 1) h
    have T : lx_T n tp (lx_W n tp j).2 (lx_W n tp (j + 1)).1 (lx_W n tp (j + 1)).2 := lx_wT (lx_Tex (lx_W_le n tp j).2)
    have k2 : (lx_W n tp j).2 ≤ (lx_W n tp (j + 1)).1 := T.1.1
    have k3 : ¬ wS n tp j = 0 := fun e => by
      have e1 := w_end.mp e
      have l1 := lx_W_le n tp j
      have l2 := lx_W_le n tp (j + 1)
      omega
    have := ih k3
    omega
theorem w_b {n : Nat} {tp : Nat → Int32} (hn : n ≤ 600) {j : Nat} (h : ¬ wS n tp j = 0) : j + 1 ≤ 600 := by
  have a := w_go j h
  have b := (lx_W_le n tp j).2
  omega
theorem w_b2 {n : Nat} {tp : Nat → Int32} (hn : n ≤ 600) {j : Nat} {s : Int32} (h : wS n tp j = s) (hs : ¬ s = 0) : j + 1 ≤ 600 := w_b hn (fun e => hs (h.symm.trans e))
theorem rd_cs_b {n : Nat} {tp : Nat → Int32} (hn : n ≤ 600) {k : Int32} : ∀ (f : Nat) (x4 x5 x6 : Int32) (j : Nat), j ≤ 600 → (∀ e, rd_cs n tp k f x4 x5 x6 j = .inl e → e ≤ 600) ∧ ∀ e y, rd_cs n tp k f x4 x5 x6 j = .inr (e, y) → e ≤ 600 := by
  intro f
  induction f with
  | zero =>
    intro x4 x5 x6 j hj
    refine ⟨fun e q => ?_, fun e y q => ?_⟩
    · rw [rd_cs] at q; injection q with q; omega
    · rw [rd_cs] at q; exact nomatch q
  | succ f ih =>
    intro x4 x5 x6 j hj
    rw [rd_cs]
    by_cases c1 : w_sg n tp 59 j
    · rw [if_pos c1]
      have := w_b2 hn c1.1 (by decide)
      refine ⟨fun e q => (nomatch q), fun e y q => ?_⟩
      injection q with q; injection q with q1 q2; omega
    · rw [if_neg c1]
      by_cases c2 : cd_w n tp k x4 x5 x6 j = 0
      · rw [if_pos c2]
        refine ⟨fun e q => ?_, fun e y q => (nomatch q)⟩
        injection q with q; omega
      · rw [if_neg c2]
        have h2 : wS n tp j = 2 := by
          by_cases e : wS n tp j = 2
          · exact e
          · exact absurd (cd_s e) c2
        have := w_b2 hn h2 (by decide)
        by_cases c3 : w_nu n tp 1000000000 (j + 1)
        · rw [if_pos c3]
          have := w_b2 hn c3.1 (by decide)
          exact ih _ _ _ _ (by omega)
        · rw [if_neg c3]
          refine ⟨fun e q => ?_, fun e y q => (nomatch q)⟩
          injection q with q; omega
theorem rd_tl_b {n : Nat} {tp : Nat → Int32} (hn : n ≤ 600) {x0 x1 x2 : Int32} {j : Nat} (hj : j ≤ 600) : (∀ e, rd_tl n tp x0 x1 x2 j = .inl e → e ≤ 600) ∧ ∀ e y, rd_tl n tp x0 x1 x2 j = .inr (e, y) → e ≤ 600 := by
  by_cases c1 : w_sg n tp 60 j
  · have b1 := w_b2 hn c1.1 (by decide)
    by_cases c2 : w_nu n tp 1000000000 (j + 1)
    · have b2 := w_b2 hn c2.1 (by decide)
      rw [rd_tl_p c1 c2, rd_ct]
      obtain ⟨q1, q2⟩ := rd_cs_b hn (k := x0) 4 (-1) (-1) (-1) (j + 2) (by omega)
      cases hc : rd_cs n tp x0 4 (-1) (-1) (-1) (j + 2) with
      | inl e => exact ⟨fun e9 q => by injection q with q; rw [← q]; exact q1 e hc, fun e9 y q => by first | exact (nomatch q) | cases q⟩
      | inr y =>
        obtain ⟨e, y4, y5, y6⟩ := y
        exact ⟨fun e9 q => (by first | exact (nomatch q) | cases q), fun e9 y q => by injection q with q; injection q with q _; rw [← q]; exact q2 e _ hc⟩
    · rw [rd_tl_n c1 c2]
      exact ⟨fun e q => by injection q with q; omega, fun e y q => (nomatch q)⟩
  · rw [rd_tl_0 c1]
    exact ⟨fun e q => by injection q with q; omega, fun e y q => (nomatch q)⟩
theorem rd_rl_b {n : Nat} {tp : Nat → Int32} (hn : n ≤ 600) {ly : Int32} {nm : Nat → Int64} {d j : Nat} (hj : j ≤ 600) : (∀ e, rd_rl n tp ly nm d j = .inl e → e ≤ 600) ∧ ∀ e y, rd_rl n tp ly nm d j = .inr (e, y) → e ≤ 600 := by
  have Z : ∀ a : Nat, a ≤ 600 → (∀ e, (Sum.inl a : Nat ⊕ (Nat × (Nat → Int32))) = .inl e → e ≤ 600) ∧ ∀ e y, (Sum.inl a : Nat ⊕ (Nat × (Nat → Int32))) = .inr (e, y) → e ≤ 600 := fun a ha => ⟨fun e q => by injection q with q; omega, fun e y q => (nomatch q)⟩
  rw [rd_rl]
  by_cases c1 : rd_new n tp nm d j
  · have b1 := w_b2 hn c1.1 (by decide)
    rw [if_pos c1]
    by_cases c2 : w_sg n tp 61 (j + 1)
    · have b2 := w_b2 hn c2.1 (by decide)
      rw [if_pos c2]
      by_cases c3 : rd_k n tp (j + 2) = -1
      · rw [if_pos c3]; exact Z _ (by omega)
      · rw [if_neg c3]
        have h2 : wS n tp (j + 2) = 2 := by
          by_cases e : wS n tp (j + 2) = 2
          · exact e
          · exact absurd (by rw [rd_k, if_neg e]) c3
        have b3 := w_b2 hn h2 (by decide)
        by_cases c4 : w_nu n tp ly (j + 3)
        · have b4 := w_b2 hn c4.1 (by decide)
          rw [if_pos c4]
          by_cases c5 : 7 ≤ rd_k n tp (j + 2)
          · rw [if_pos c5]
            by_cases c6 : w_nu n tp ly (j + 4)
            · have b5 := w_b2 hn c6.1 (by decide)
              rw [if_pos c6]; exact rd_tl_b hn (by omega)
            · rw [if_neg c6]; exact Z _ (by omega)
          · rw [if_neg c5]; exact rd_tl_b hn (by omega)
        · rw [if_neg c4]; exact Z _ (by omega)
    · rw [if_neg c2]; exact Z _ (by omega)
  · rw [if_neg c1]; exact Z _ hj
theorem cd_w2 {n : Nat} {tp : Nat → Int32} {k x4 x5 x6 : Int32} {j : Nat} (h : cd_w n tp k x4 x5 x6 j = 2) : k = 7 ∨ k = 8 := by
  unfold cd_w at h
  split at h
  · exact absurd h (by decide)
  · split at h
    · rename_i c; exact c.2.2
    · split at h <;> exact absurd h (by decide)
theorem rd_cs_c {n : Nat} {tp : Nat → Int32} {k : Int32} : ∀ (f : Nat) (x4 x5 x6 : Int32) (j e : Nat) (y4 y5 y6 : Int32), (x5 = -1 ∨ 0 ≤ x5) → (x6 = -1 ∨ 0 ≤ x6) → ((k = 7 ∨ k = 8) ∨ x5 = -1) → rd_cs n tp k f x4 x5 x6 j = .inr (e, y4, y5, y6) → (y5 = -1 ∨ 0 ≤ y5) ∧ (y6 = -1 ∨ 0 ≤ y6) ∧ ((k = 7 ∨ k = 8) ∨ y5 = -1) := by
  intro f
  induction f with
  | zero => intro x4 x5 x6 j e y4 y5 y6 _ _ _ q; rw [rd_cs] at q; exact (nomatch q)
  | succ f ih =>
    intro x4 x5 x6 j e y4 y5 y6 h5 h6 h7 q
    rw [rd_cs] at q
    by_cases c1 : w_sg n tp 59 j
    · rw [if_pos c1] at q
      injection q with q; injection q with _ q; injection q with _ q; injection q with q1 q2
      rw [← q1, ← q2]; exact ⟨h5, h6, h7⟩
    · rw [if_neg c1] at q
      by_cases c2 : cd_w n tp k x4 x5 x6 j = 0
      · rw [if_pos c2] at q; exact (nomatch q)
      · rw [if_neg c2] at q
        by_cases c3 : w_nu n tp 1000000000 (j + 1)
        · rw [if_pos c3] at q
          refine ih _ _ _ _ _ _ _ _ (cd_xb h5 (w_nv0 c3.1)) (cd_xb h6 (w_nv0 c3.1)) ?_ q
          by_cases c4 : cd_w n tp k x4 x5 x6 j = 2
          · exact Or.inl (cd_w2 c4)
          · exact h7.elim Or.inl (fun g => Or.inr ((if_neg c4).trans g))
        · rw [if_neg c3] at q; exact (nomatch q)
theorem rd_tl_c {n : Nat} {tp : Nat → Int32} {x0 x1 x2 : Int32} {j e : Nat} {x : Nat → Int32} (q : rd_tl n tp x0 x1 x2 j = .inr (e, x)) : (x 5 = -1 ∨ 0 ≤ x 5) ∧ (x 6 = -1 ∨ 0 ≤ x 6) ∧ ((x0 = 7 ∨ x0 = 8) ∨ x 5 = -1) ∧ x 0 = x0 ∧ x 1 = x1 ∧ x 2 = x2 ∧ 0 ≤ x 3 := by
  by_cases c1 : w_sg n tp 60 j
  · by_cases c2 : w_nu n tp 1000000000 (j + 1)
    · rw [rd_tl_p c1 c2, rd_ct] at q
      cases hc : rd_cs n tp x0 4 (-1) (-1) (-1) (j + 2) with
      | inl a => rw [hc] at q; exact (nomatch q)
      | inr y =>
        obtain ⟨a, y4, y5, y6⟩ := y
        rw [hc] at q
        injection q with q; injection q with _ q
        rw [← q]
        obtain ⟨g1, g2, g3⟩ := rd_cs_c 4 _ _ _ _ _ _ _ _ (Or.inl rfl) (Or.inl rfl) (Or.inr rfl) hc
        exact ⟨g1, g2, g3, rfl, rfl, rfl, w_nv0 c2.1⟩
    · rw [rd_tl_n c1 c2] at q; exact (nomatch q)
  · rw [rd_tl_0 c1] at q; exact (nomatch q)
/-- what holds of every rule that is read -/
def rd_ok (x : Nat → Int32) : Prop := (x 5 = -1 ∨ 0 ≤ x 5) ∧ (x 6 = -1 ∨ 0 ≤ x 6) ∧ (x 0 < 7 → x 2 = x 1) ∧ (x 0 = 9 ∨ x 0 = 10 → x 5 = -1) ∧ 0 ≤ x 3
theorem rd_tl_o {x0 : Int32} {x : Nat → Int32} (g3 : (x0 = 7 ∨ x0 = 8) ∨ x 5 = -1) (g4 : x 0 = x0) : x 0 = 9 ∨ x 0 = 10 → x 5 = -1 := by
  intro q
  rcases g3 with g3 | g3
  · rw [g4] at q
    rcases g3 with rfl | rfl <;> exact absurd q (by decide)
  · exact g3
theorem rd_rl_cc {n : Nat} {tp : Nat → Int32} {ly : Int32} {nm : Nat → Int64} {d j e : Nat} {x : Nat → Int32} (q : rd_rl n tp ly nm d j = .inr (e, x)) : rd_ok x := by
  rw [rd_rl] at q
  by_cases c1 : rd_new n tp nm d j
  · rw [if_pos c1] at q
    by_cases c2 : w_sg n tp 61 (j + 1)
    · rw [if_pos c2] at q
      by_cases c3 : rd_k n tp (j + 2) = -1
      · rw [if_pos c3] at q; exact (nomatch q)
      · rw [if_neg c3] at q
        by_cases c4 : w_nu n tp ly (j + 3)
        · rw [if_pos c4] at q
          by_cases c5 : 7 ≤ rd_k n tp (j + 2)
          · rw [if_pos c5] at q
            by_cases c6 : w_nu n tp ly (j + 4)
            · rw [if_pos c6] at q
              obtain ⟨g1, g2, g3, g4, g5, g6, g7⟩ := rd_tl_c q
              exact ⟨g1, g2, fun g => absurd c5 (by rw [← g4]; exact Int32.not_le.mpr g), rd_tl_o g3 g4, g7⟩
            · rw [if_neg c6] at q; exact (nomatch q)
          · rw [if_neg c5] at q
            obtain ⟨g1, g2, g3, g4, g5, g6, g7⟩ := rd_tl_c q
            exact ⟨g1, g2, fun _ => g6.trans g5.symm, rd_tl_o g3 g4, g7⟩
        · rw [if_neg c4] at q; exact (nomatch q)
    · rw [if_neg c2] at q; exact (nomatch q)
  · rw [if_neg c1] at q; exact (nomatch q)
theorem rd_all_c0 {n : Nat} {tp : Nat → Int32} {ly : Int32} : ∀ (f d j : Nat) (nm : Nat → Int64) (r : Nat → Nat → Int32) (d1 : Nat) (r1 : Nat → Nat → Int32), (∀ i, i < d → rd_ok (fun c => r c i)) → rd_all n tp ly f d nm r j = .inr (d1, r1) → ∀ i, i < d1 → rd_ok (fun c => r1 c i) := by
  intro f
  induction f with
  | zero => intro d j nm r d1 r1 _ q; rw [rd_all] at q; exact (nomatch q)
  | succ f ih =>
    intro d j nm r d1 r1 h q
    rw [rd_all] at q
    cases hr : rd_rl n tp ly nm d j with
    | inl a => rw [hr] at q; exact (nomatch q)
    | inr y =>
      obtain ⟨e, x⟩ := y
      rw [hr] at q
      have hx := rd_rl_cc hr
      have h' : ∀ i, i < d + 1 → rd_ok (fun c => rd_ut r d x c i) := by
        intro i hi
        by_cases e9 : i = d
        · have e8 : (fun c => rd_ut r d x c i) = x := funext fun c => if_pos e9
          rw [e8]; exact hx
        · have e8 : (fun c => rd_ut r d x c i) = fun c => r c i := funext fun c => if_neg e9
          rw [e8]; exact h i (by omega)
      by_cases c : wS n tp e = 0
      · have q' : (Sum.inr (d + 1, rd_ut r d x) : Nat ⊕ (Nat × (Nat → Nat → Int32))) = .inr (d1, r1) := (if_pos c).symm.trans q
        injection q' with q'; injection q' with q1 q2
        rw [← q1, ← q2]; exact h'
      · have q' := (if_neg c).symm.trans q
        exact ih (d + 1) e _ _ d1 r1 h' q'
theorem rd_all_c {n : Nat} {tp : Nat → Int32} {ly : Int32} {d1 : Nat} {r1 : Nat → Nat → Int32} (q : rd_all n tp ly 20 0 (fun _ => 0) (fun _ _ => 0) 0 = .inr (d1, r1)) : ∀ i, i < d1 → ab_cd r1 i := rd_all_c0 20 0 0 _ _ d1 r1 (fun i hi => absurd hi (Nat.not_lt_zero i)) q
set_option maxHeartbeats 4000000 in
set_option maxRecDepth 100000 in
theorem t_pF (G : sv_G) (Qr : Option Value → sv_h → Nat → Prop) (b n : Nat) (tp : Nat → Int32) (k : Int32) (A d : Nat) (h h1 : sv_h) (z j : Nat) (n0 : Int64) (kd : Nat) (x1 x2 x3 x4 x5 x6 : Int32) (Hw : cw_ G b n tp k A d h h1 j n0 kd x1 x2 x3 x4 x5 x6) (hk : Qr (some (.int (-1 - nI j))) h1 z) : V G mX6_parse (sv_MQ G mX6_parse Qr) 100 [(2, .ref (A + 1 + d)), (1, .int (nI d)), (0, .ref (b + 10))] [] h1 z 0 0 := by
  obtain ⟨hrd, hru, fr⟩ := id Hw
  refine v_iconst (v := 0) dX6_parse_100 (by decide) ?_
  refine v_istore_n (L' := [(3, _), (2, _), (1, _), (0, _)]) dX6_parse_101 rfl (Nat.le_of_ble_eq_true rfl) rfl ?_
  refine v_iload_n dX6_parse_102 rfl 0 rfl ?_
  refine v_if_ne (tgt := 113) dX6_parse_103 (by decide) (fun c_103 => ?_) (fun c_103 => ?_)
  · exact absurd rfl c_103
  · refine v_iconst (v := (-1)) dX6_parse_106 (by decide) ?_
    refine v_aload_n dX6_parse_107 rfl 3 rfl ?_
    refine v_getf 4 (ci := 4) (C := RX6) (T := TX6) (N := 9) rfl iwX6_parse_X6 (Nat.le_of_ble_eq_true rfl) (by decide +kernel) dX6_parse_108 (by first | with_reducible assumption) rfl ?_
    refine v_isub dX6_parse_111 ?_
    exact v_iret rfl dX6_parse_112 (Nat.le_of_ble_eq_true rfl) (Nat.le_of_ble_eq_true rfl) rfl hk

set_option maxHeartbeats 4000000 in
set_option maxRecDepth 100000 in
theorem t_pR (G : sv_G) (Qr : Option Value → sv_h → Nat → Prop) (h : sv_h) (z b n : Nat) (tp : Nat → Int32) (k : Int32) (A d : Nat) (X9 : cx_ G b n tp h A d) (j : Nat) (n0 : Int64) (kd : Nat) (x1 x2 x3 x4 x5 x6 : Int32) (Hw : cw_ G b n tp k A d h h j n0 kd x1 x2 x3 x4 x5 x6) (hkd : kd < 11) (fq : Nat → Option Nat) (hQ : ab_Q G h A 5 20 fq) (hfq : ∀ j, j < 20 → fq j = some (A + 1 + j)) (nm : Nat → Int64) (hnm : ∀ i, i < d → ∃ (kd0 : Nat) (y1 y2 y3 y4 y5 y6 : Int32), h (A + 1 + i) = some (.inr (5, [.long (nm i), .ref kd0, .int y1, .int y2, .int y3, .int y4, .int y5, .int y6]))) (hk0 : ∀ (h1 : sv_h) (j1 : Nat) (n1 : Int64) (ke : Nat) (y1 y2 y3 y4 y5 y6 : Int32), ke < 11 → cw_ G b n tp k A d h h1 j1 n1 ke y1 y2 y3 y4 y5 y6 → rd_rl n tp k nm d j = .inl j1 → Qr (some (.int (-1 - nI j1))) h1 z) (hk1 : ∀ (h1 : sv_h) (j1 : Nat) (n1 : Int64) (ke : Nat) (y1 y2 y3 y4 y5 y6 : Int32), ke < 11 → cw_ G b n tp k A d h h1 j1 n1 ke y1 y2 y3 y4 y5 y6 → n1 = wV n tp j → rd_rl n tp k nm d j = .inr (j1, rd_row (nI ke) y1 y2 y3 y4 y5 y6) → V G mX6_parse (sv_MQ G mX6_parse Qr) 113 [(2, .ref (A + 1 + d)), (1, .int (nI d)), (0, .ref (b + 10))] [] h1 z 0 0) : V G mX6_parse (sv_MQ G mX6_parse Qr) 34 [(2, .ref (A + 1 + d)), (1, .int (nI d)), (0, .ref (b + 10))] [] h z 0 0 := by
  obtain ⟨hrd, hru, fr⟩ := id Hw
  have hA := X9.2.2.2.2.1
  have hd := X9.2.2.2.2.2
  refine v_aload_n dX6_parse_34 rfl 0 rfl ?_
  refine v_callVq (M' := mX7_forgetConditions) (n := 0) (As := []) (ci := 5) (r := (RX7, TX7, 8)) gX6_parse_X7_forgetConditions rfl (by decide +kernel) ⟨(Nat.le_of_ble_eq_true rfl), (Nat.le_of_ble_eq_true rfl)⟩ rfl rfl dX6_parse_35 rfl ⟨(Nat.le_of_ble_eq_true rfl), (Nat.le_of_ble_eq_true rfl)⟩ (Nat.le_of_ble_eq_true rfl) (by repeat (first | with_reducible assumption | (with_reducible refine sv_us.trans ?_; exact rfl) | with_reducible refine (sv_un (by omega)).trans ?_)) rfl (c_forget G h z (A + 1 + d) n0 _ x1 x2 x3 x4 x5 x6 hru) (fun v h1 z1 hq => ?_)
  obtain ⟨rfl, rfl, rfl⟩ := hq
  have Hw0 : cw_ G b n tp k A d h _ j n0 kd x1 x2 x3 (-1) (-1) (-1) := Hw.put X9
  obtain ⟨hrd0, hru0, fr0⟩ := id Hw0
  refine v_aload_n dX6_parse_38 rfl 2 rfl ?_
  refine v_aload_n dX6_parse_39 rfl 0 rfl ?_
  refine v_callVq (M' := mX6_takeName) (n := 1) (As := [_]) (ci := 4) (r := (RX6, TX6, 9)) gX6_parse_X6_takeName rfl (by decide +kernel) ⟨(Nat.le_of_ble_eq_true rfl), (Nat.le_of_ble_eq_true rfl)⟩ rfl rfl dX6_parse_40 rfl ⟨(Nat.le_of_ble_eq_true rfl), (Nat.le_of_ble_eq_true rfl)⟩ (Nat.le_of_ble_eq_true rfl) (by repeat (first | with_reducible assumption | (with_reducible refine sv_us.trans ?_; exact rfl) | with_reducible refine (sv_un (by omega)).trans ?_)) rfl (c_nameW G h _ b n tp k A d X9 j n0 kd x1 x2 x3 (-1) (-1) (-1) _ Hw0 fq ((fr0 _ (by omega) (by omega)).trans hQ) hfq nm (fun i hi => by obtain ⟨ke, y1, y2, y3, y4, y5, y6, r1⟩ := hnm i hi; exact ⟨ke, y1, y2, y3, y4, y5, y6, (fr0 _ (by omega) (by omega)).trans r1⟩)) (fun v h1 z1 hq => ?_)
  obtain ⟨rfl, w1, rfl, e1⟩ := hq
  have hf : w1 = 0 → (∃ (j1 : Nat) (n1 : Int64) (ke : Nat) (y1 y2 y3 y4 y5 y6 : Int32), ke < 11 ∧ cw_ G b n tp k A d h h1 j1 n1 ke y1 y2 y3 y4 y5 y6 ∧ rd_rl n tp k nm d j = .inl j1) := by
    intro e0
    rcases e1 with ⟨r, _⟩ | ⟨_, r2, r3⟩
    · exact absurd (r.symm.trans e0) (by decide)
    · exact ⟨j, _, _, _, _, _, _, _, _, hkd, r3, by rw [rd_rl, if_neg r2]⟩
  have H1 : ∃ j1 m1, cw_ G b n tp k A d h h1 j1 m1 kd x1 x2 x3 (-1) (-1) (-1) := by
    rcases e1 with ⟨_, _, r⟩ | ⟨_, _, r⟩
    · exact ⟨_, _, r⟩
    · exact ⟨_, _, r⟩
  obtain ⟨_, _, hrd1, hru1, fr1⟩ := H1
  refine v_if_eq (tgt := 100) dX6_parse_43 (by decide) (fun c_43 => ?_) (fun c_43 => ?_)
  · first
      | (have c9 : w7 = 0 := c_93; obtain ⟨j9, n9, k9, v1, v2, v3, v4, v5, v6, g1, g2, g3⟩ := hf c9; exact t_pF G Qr b n tp k A d h _ _ j9 n9 k9 v1 v2 v3 v4 v5 v6 g2 (hk0 _ _ _ _ _ _ _ _ _ _ g1 g2 g3))
      | (have c9 : w6 = 0 := c_85; obtain ⟨j9, n9, k9, v1, v2, v3, v4, v5, v6, g1, g2, g3⟩ := hf c9; exact t_pF G Qr b n tp k A d h _ _ j9 n9 k9 v1 v2 v3 v4 v5 v6 g2 (hk0 _ _ _ _ _ _ _ _ _ _ g1 g2 g3))
      | (have c9 : w5 = 0 := c_77; obtain ⟨j9, n9, k9, v1, v2, v3, v4, v5, v6, g1, g2, g3⟩ := hf c9; exact t_pF G Qr b n tp k A d h _ _ j9 n9 k9 v1 v2 v3 v4 v5 v6 g2 (hk0 _ _ _ _ _ _ _ _ _ _ g1 g2 g3))
      | (have c9 : w4 = 0 := c_68; obtain ⟨j9, n9, k9, v1, v2, v3, v4, v5, v6, g1, g2, g3⟩ := hf c9; exact t_pF G Qr b n tp k A d h _ _ j9 n9 k9 v1 v2 v3 v4 v5 v6 g2 (hk0 _ _ _ _ _ _ _ _ _ _ g1 g2 g3))
      | (have c9 : w3 = 0 := c_60; obtain ⟨j9, n9, k9, v1, v2, v3, v4, v5, v6, g1, g2, g3⟩ := hf c9; exact t_pF G Qr b n tp k A d h _ _ j9 n9 k9 v1 v2 v3 v4 v5 v6 g2 (hk0 _ _ _ _ _ _ _ _ _ _ g1 g2 g3))
      | (have c9 : w2 = 0 := c_52; obtain ⟨j9, n9, k9, v1, v2, v3, v4, v5, v6, g1, g2, g3⟩ := hf c9; exact t_pF G Qr b n tp k A d h _ _ j9 n9 k9 v1 v2 v3 v4 v5 v6 g2 (hk0 _ _ _ _ _ _ _ _ _ _ g1 g2 g3))
      | (have c9 : w1 = 0 := c_43; obtain ⟨j9, n9, k9, v1, v2, v3, v4, v5, v6, g1, g2, g3⟩ := hf c9; exact t_pF G Qr b n tp k A d h _ _ j9 n9 k9 v1 v2 v3 v4 v5 v6 g2 (hk0 _ _ _ _ _ _ _ _ _ _ g1 g2 g3))
  · obtain ⟨c1, Hw1⟩ : rd_new n tp nm d j ∧ cw_ G b n tp k A d h h1 (j + 1) (wV n tp j) kd x1 x2 x3 (-1) (-1) (-1) := by
      rcases e1 with ⟨_, r⟩ | ⟨r, _⟩
      · exact r
      · exact absurd r c_43
    clear hf
    refine v_aload_n dX6_parse_46 rfl 2 rfl ?_
    refine v_bipush (v := 61) dX6_parse_47 (by decide) ?_
    refine v_callVq (M' := mX6_takeSign) (n := 1) (As := [_]) (ci := 4) (r := (RX6, TX6, 9)) gX6_parse_X6_takeSign rfl (by decide +kernel) ⟨(Nat.le_of_ble_eq_true rfl), (Nat.le_of_ble_eq_true rfl)⟩ rfl rfl dX6_parse_49 rfl ⟨(Nat.le_of_ble_eq_true rfl), (Nat.le_of_ble_eq_true rfl)⟩ (Nat.le_of_ble_eq_true rfl) (by repeat (first | with_reducible assumption | (with_reducible refine sv_us.trans ?_; exact rfl) | with_reducible refine (sv_un (by omega)).trans ?_)) rfl (c_signW G h _ b n tp k A d X9 (j + 1) (wV n tp j) kd x1 x2 x3 (-1) (-1) (-1) _ Hw1 61) (fun v h2 z2 hq => ?_)
    obtain ⟨rfl, w2, j2, rfl, Hw2, e2⟩ := hq
    have hf : w2 = 0 → (∃ (j1 : Nat) (n1 : Int64) (ke : Nat) (y1 y2 y3 y4 y5 y6 : Int32), ke < 11 ∧ cw_ G b n tp k A d h h2 j1 n1 ke y1 y2 y3 y4 y5 y6 ∧ rd_rl n tp k nm d j = .inl j1) := by
      intro e0
      rcases e2 with ⟨r, _⟩ | ⟨_, r2, r3⟩
      · exact absurd (r.symm.trans e0) (by decide)
      · exact ⟨j2, _, _, _, _, _, _, _, _, hkd, Hw2, by rw [rd_rl, if_pos c1, if_neg r2, r3]⟩
    obtain ⟨hrd2, hru2, fr2⟩ := id Hw2
    refine v_if_eq (tgt := 100) dX6_parse_52 (by decide) (fun c_52 => ?_) (fun c_52 => ?_)
    · first
        | (have c9 : w7 = 0 := c_93; obtain ⟨j9, n9, k9, v1, v2, v3, v4, v5, v6, g1, g2, g3⟩ := hf c9; exact t_pF G Qr b n tp k A d h _ _ j9 n9 k9 v1 v2 v3 v4 v5 v6 g2 (hk0 _ _ _ _ _ _ _ _ _ _ g1 g2 g3))
        | (have c9 : w6 = 0 := c_85; obtain ⟨j9, n9, k9, v1, v2, v3, v4, v5, v6, g1, g2, g3⟩ := hf c9; exact t_pF G Qr b n tp k A d h _ _ j9 n9 k9 v1 v2 v3 v4 v5 v6 g2 (hk0 _ _ _ _ _ _ _ _ _ _ g1 g2 g3))
        | (have c9 : w5 = 0 := c_77; obtain ⟨j9, n9, k9, v1, v2, v3, v4, v5, v6, g1, g2, g3⟩ := hf c9; exact t_pF G Qr b n tp k A d h _ _ j9 n9 k9 v1 v2 v3 v4 v5 v6 g2 (hk0 _ _ _ _ _ _ _ _ _ _ g1 g2 g3))
        | (have c9 : w4 = 0 := c_68; obtain ⟨j9, n9, k9, v1, v2, v3, v4, v5, v6, g1, g2, g3⟩ := hf c9; exact t_pF G Qr b n tp k A d h _ _ j9 n9 k9 v1 v2 v3 v4 v5 v6 g2 (hk0 _ _ _ _ _ _ _ _ _ _ g1 g2 g3))
        | (have c9 : w3 = 0 := c_60; obtain ⟨j9, n9, k9, v1, v2, v3, v4, v5, v6, g1, g2, g3⟩ := hf c9; exact t_pF G Qr b n tp k A d h _ _ j9 n9 k9 v1 v2 v3 v4 v5 v6 g2 (hk0 _ _ _ _ _ _ _ _ _ _ g1 g2 g3))
        | (have c9 : w2 = 0 := c_52; obtain ⟨j9, n9, k9, v1, v2, v3, v4, v5, v6, g1, g2, g3⟩ := hf c9; exact t_pF G Qr b n tp k A d h _ _ j9 n9 k9 v1 v2 v3 v4 v5 v6 g2 (hk0 _ _ _ _ _ _ _ _ _ _ g1 g2 g3))
        | (have c9 : w1 = 0 := c_43; obtain ⟨j9, n9, k9, v1, v2, v3, v4, v5, v6, g1, g2, g3⟩ := hf c9; exact t_pF G Qr b n tp k A d h _ _ j9 n9 k9 v1 v2 v3 v4 v5 v6 g2 (hk0 _ _ _ _ _ _ _ _ _ _ g1 g2 g3))
    · obtain ⟨c2, rfl⟩ : w_sg n tp 61 (j + 1) ∧ j2 = j + 2 := by
        rcases e2 with ⟨_, r1, r2⟩ | ⟨r, _⟩
        · exact ⟨r1, r2⟩
        · exact absurd r c_52
      clear hf
      refine v_aload_n dX6_parse_55 rfl 2 rfl ?_
      refine v_aload_n dX6_parse_56 rfl 0 rfl ?_
      refine v_callVq (M' := mX6_takeKind) (n := 1) (As := [_]) (ci := 4) (r := (RX6, TX6, 9)) gX6_parse_X6_takeKind rfl (by decide +kernel) ⟨(Nat.le_of_ble_eq_true rfl), (Nat.le_of_ble_eq_true rfl)⟩ rfl rfl dX6_parse_57 rfl ⟨(Nat.le_of_ble_eq_true rfl), (Nat.le_of_ble_eq_true rfl)⟩ (Nat.le_of_ble_eq_true rfl) (by repeat (first | with_reducible assumption | (with_reducible refine sv_us.trans ?_; exact rfl) | with_reducible refine (sv_un (by omega)).trans ?_)) rfl (c_kindW G h _ b n tp k A d X9 (j + 2) (wV n tp j) kd x1 x2 x3 (-1) (-1) (-1) _ Hw2) (fun v h3 z3 hq => ?_)
      obtain ⟨rfl, w3, rfl, e3⟩ := hq
      have hf : w3 = 0 → (∃ (j1 : Nat) (n1 : Int64) (ke : Nat) (y1 y2 y3 y4 y5 y6 : Int32), ke < 11 ∧ cw_ G b n tp k A d h h3 j1 n1 ke y1 y2 y3 y4 y5 y6 ∧ rd_rl n tp k nm d j = .inl j1) := by
        intro e0
        rcases e3 with ⟨r, _⟩ | ⟨_, r2, r3⟩
        · exact absurd (r.symm.trans e0) (by decide)
        · exact ⟨j + 2, _, _, _, _, _, _, _, _, hkd, r3, by rw [rd_rl, if_pos c1, if_pos c2, if_pos r2]⟩
      have H3 : ∃ j1 ke, cw_ G b n tp k A d h h3 j1 (wV n tp j) ke x1 x2 x3 (-1) (-1) (-1) := by
        rcases e3 with ⟨_, ke, _, _, r⟩ | ⟨_, _, r⟩
        · exact ⟨_, _, r⟩
        · exact ⟨_, _, r⟩
      obtain ⟨_, _, hrd3, hru3, fr3⟩ := H3
      refine v_if_eq (tgt := 100) dX6_parse_60 (by decide) (fun c_60 => ?_) (fun c_60 => ?_)
      · first
          | (have c9 : w7 = 0 := c_93; obtain ⟨j9, n9, k9, v1, v2, v3, v4, v5, v6, g1, g2, g3⟩ := hf c9; exact t_pF G Qr b n tp k A d h _ _ j9 n9 k9 v1 v2 v3 v4 v5 v6 g2 (hk0 _ _ _ _ _ _ _ _ _ _ g1 g2 g3))
          | (have c9 : w6 = 0 := c_85; obtain ⟨j9, n9, k9, v1, v2, v3, v4, v5, v6, g1, g2, g3⟩ := hf c9; exact t_pF G Qr b n tp k A d h _ _ j9 n9 k9 v1 v2 v3 v4 v5 v6 g2 (hk0 _ _ _ _ _ _ _ _ _ _ g1 g2 g3))
          | (have c9 : w5 = 0 := c_77; obtain ⟨j9, n9, k9, v1, v2, v3, v4, v5, v6, g1, g2, g3⟩ := hf c9; exact t_pF G Qr b n tp k A d h _ _ j9 n9 k9 v1 v2 v3 v4 v5 v6 g2 (hk0 _ _ _ _ _ _ _ _ _ _ g1 g2 g3))
          | (have c9 : w4 = 0 := c_68; obtain ⟨j9, n9, k9, v1, v2, v3, v4, v5, v6, g1, g2, g3⟩ := hf c9; exact t_pF G Qr b n tp k A d h _ _ j9 n9 k9 v1 v2 v3 v4 v5 v6 g2 (hk0 _ _ _ _ _ _ _ _ _ _ g1 g2 g3))
          | (have c9 : w3 = 0 := c_60; obtain ⟨j9, n9, k9, v1, v2, v3, v4, v5, v6, g1, g2, g3⟩ := hf c9; exact t_pF G Qr b n tp k A d h _ _ j9 n9 k9 v1 v2 v3 v4 v5 v6 g2 (hk0 _ _ _ _ _ _ _ _ _ _ g1 g2 g3))
          | (have c9 : w2 = 0 := c_52; obtain ⟨j9, n9, k9, v1, v2, v3, v4, v5, v6, g1, g2, g3⟩ := hf c9; exact t_pF G Qr b n tp k A d h _ _ j9 n9 k9 v1 v2 v3 v4 v5 v6 g2 (hk0 _ _ _ _ _ _ _ _ _ _ g1 g2 g3))
          | (have c9 : w1 = 0 := c_43; obtain ⟨j9, n9, k9, v1, v2, v3, v4, v5, v6, g1, g2, g3⟩ := hf c9; exact t_pF G Qr b n tp k A d h _ _ j9 n9 k9 v1 v2 v3 v4 v5 v6 g2 (hk0 _ _ _ _ _ _ _ _ _ _ g1 g2 g3))
      · obtain ⟨ke, hke, c3, Hw3⟩ : ∃ ke, ke < 11 ∧ rd_k n tp (j + 2) = nI ke ∧ cw_ G b n tp k A d h h3 (j + 3) (wV n tp j) ke x1 x2 x3 (-1) (-1) (-1) := by
          rcases e3 with ⟨_, r⟩ | ⟨r, _⟩
          · exact r
          · exact absurd r c_60
        have c3n : ¬ rd_k n tp (j + 2) = -1 := by rw [c3]; exact fun q => absurd (nI_pos' (n := ke) (by omega)) (by rw [q]; decide)
        clear hf
        refine v_aload_n dX6_parse_63 rfl 2 rfl ?_
        refine v_aload_n dX6_parse_64 rfl 0 rfl ?_
        refine v_callVq (M' := mX6_takeLayers) (n := 1) (As := [_]) (ci := 4) (r := (RX6, TX6, 9)) gX6_parse_X6_takeLayers rfl (by decide +kernel) ⟨(Nat.le_of_ble_eq_true rfl), (Nat.le_of_ble_eq_true rfl)⟩ rfl rfl dX6_parse_65 rfl ⟨(Nat.le_of_ble_eq_true rfl), (Nat.le_of_ble_eq_true rfl)⟩ (Nat.le_of_ble_eq_true rfl) (by repeat (first | with_reducible assumption | (with_reducible refine sv_us.trans ?_; exact rfl) | with_reducible refine (sv_un (by omega)).trans ?_)) rfl (c_layersW G h _ b n tp k A d X9 (j + 3) (wV n tp j) ke x1 x2 x3 (-1) (-1) (-1) _ Hw3 hke) (fun v h4 z4 hq => ?_)
        obtain ⟨rfl, w4, j4, y1, y2, rfl, Hw4, e4⟩ := hq
        have hf : w4 = 0 → (∃ (j1 : Nat) (n1 : Int64) (ke : Nat) (y1 y2 y3 y4 y5 y6 : Int32), ke < 11 ∧ cw_ G b n tp k A d h h4 j1 n1 ke y1 y2 y3 y4 y5 y6 ∧ rd_rl n tp k nm d j = .inl j1) := by
          intro e0
          refine ⟨j4, _, _, _, _, _, _, _, _, hke, Hw4, ?_⟩
          rw [rd_rl, if_pos c1, if_pos c2, if_neg c3n]
          rcases e4 with ⟨r, _⟩ | ⟨_, ⟨r2, r3⟩ | ⟨r2, r3, r4, r5⟩⟩
          · exact absurd (r.symm.trans e0) (by decide)
          · rw [if_neg r2, r3]
          · rw [if_pos r2, if_pos (show 7 ≤ rd_k n tp (j + 2) by rw [c3]; exact nI_le (a := 7) (b := ke) (by omega) (by omega)), if_neg r4, r5]
        obtain ⟨hrd4, hru4, fr4⟩ := id Hw4
        refine v_if_eq (tgt := 100) dX6_parse_68 (by decide) (fun c_68 => ?_) (fun c_68 => ?_)
        · first
            | (have c9 : w7 = 0 := c_93; obtain ⟨j9, n9, k9, v1, v2, v3, v4, v5, v6, g1, g2, g3⟩ := hf c9; exact t_pF G Qr b n tp k A d h _ _ j9 n9 k9 v1 v2 v3 v4 v5 v6 g2 (hk0 _ _ _ _ _ _ _ _ _ _ g1 g2 g3))
            | (have c9 : w6 = 0 := c_85; obtain ⟨j9, n9, k9, v1, v2, v3, v4, v5, v6, g1, g2, g3⟩ := hf c9; exact t_pF G Qr b n tp k A d h _ _ j9 n9 k9 v1 v2 v3 v4 v5 v6 g2 (hk0 _ _ _ _ _ _ _ _ _ _ g1 g2 g3))
            | (have c9 : w5 = 0 := c_77; obtain ⟨j9, n9, k9, v1, v2, v3, v4, v5, v6, g1, g2, g3⟩ := hf c9; exact t_pF G Qr b n tp k A d h _ _ j9 n9 k9 v1 v2 v3 v4 v5 v6 g2 (hk0 _ _ _ _ _ _ _ _ _ _ g1 g2 g3))
            | (have c9 : w4 = 0 := c_68; obtain ⟨j9, n9, k9, v1, v2, v3, v4, v5, v6, g1, g2, g3⟩ := hf c9; exact t_pF G Qr b n tp k A d h _ _ j9 n9 k9 v1 v2 v3 v4 v5 v6 g2 (hk0 _ _ _ _ _ _ _ _ _ _ g1 g2 g3))
            | (have c9 : w3 = 0 := c_60; obtain ⟨j9, n9, k9, v1, v2, v3, v4, v5, v6, g1, g2, g3⟩ := hf c9; exact t_pF G Qr b n tp k A d h _ _ j9 n9 k9 v1 v2 v3 v4 v5 v6 g2 (hk0 _ _ _ _ _ _ _ _ _ _ g1 g2 g3))
            | (have c9 : w2 = 0 := c_52; obtain ⟨j9, n9, k9, v1, v2, v3, v4, v5, v6, g1, g2, g3⟩ := hf c9; exact t_pF G Qr b n tp k A d h _ _ j9 n9 k9 v1 v2 v3 v4 v5 v6 g2 (hk0 _ _ _ _ _ _ _ _ _ _ g1 g2 g3))
            | (have c9 : w1 = 0 := c_43; obtain ⟨j9, n9, k9, v1, v2, v3, v4, v5, v6, g1, g2, g3⟩ := hf c9; exact t_pF G Qr b n tp k A d h _ _ j9 n9 k9 v1 v2 v3 v4 v5 v6 g2 (hk0 _ _ _ _ _ _ _ _ _ _ g1 g2 g3))
        · have c4 : rd_rl n tp k nm d j = rd_tl n tp (nI ke) y1 y2 j4 := by
            rw [rd_rl, if_pos c1, if_pos c2, if_neg c3n, c3]
            rcases e4 with ⟨_, r2, r3, ⟨r4, r5, r6⟩ | ⟨r4, r5, r6, r7⟩⟩ | ⟨r, _⟩
            · rw [if_pos r2, if_neg (show ¬ (7 : Int32) ≤ nI ke from nI_ge (a := ke) (b := 7) (by omega) (by decide)), r5, r3, r6]
            · rw [if_pos r2, if_pos (show (7 : Int32) ≤ nI ke from nI_le (a := 7) (b := ke) (by omega) (by omega)), if_pos r5, r6, r3, r7]
            · exact absurd r c_68
          clear hf
          refine v_aload_n dX6_parse_71 rfl 2 rfl ?_
          refine v_bipush (v := 60) dX6_parse_72 (by decide) ?_
          refine v_callVq (M' := mX6_takeSign) (n := 1) (As := [_]) (ci := 4) (r := (RX6, TX6, 9)) gX6_parse_X6_takeSign rfl (by decide +kernel) ⟨(Nat.le_of_ble_eq_true rfl), (Nat.le_of_ble_eq_true rfl)⟩ rfl rfl dX6_parse_74 rfl ⟨(Nat.le_of_ble_eq_true rfl), (Nat.le_of_ble_eq_true rfl)⟩ (Nat.le_of_ble_eq_true rfl) (by repeat (first | with_reducible assumption | (with_reducible refine sv_us.trans ?_; exact rfl) | with_reducible refine (sv_un (by omega)).trans ?_)) rfl (c_signW G h _ b n tp k A d X9 j4 (wV n tp j) ke y1 y2 x3 (-1) (-1) (-1) _ Hw4 60) (fun v h5 z5 hq => ?_)
          obtain ⟨rfl, w5, j5, rfl, Hw5, e5⟩ := hq
          have hf : w5 = 0 → (∃ (j1 : Nat) (n1 : Int64) (ke : Nat) (y1 y2 y3 y4 y5 y6 : Int32), ke < 11 ∧ cw_ G b n tp k A d h h5 j1 n1 ke y1 y2 y3 y4 y5 y6 ∧ rd_rl n tp k nm d j = .inl j1) := by
            intro e0
            rcases e5 with ⟨r, _⟩ | ⟨_, r2, r3⟩
            · exact absurd (r.symm.trans e0) (by decide)
            · exact ⟨j5, _, _, _, _, _, _, _, _, hke, Hw5, by rw [c4, rd_tl, if_neg r2, r3]⟩
          obtain ⟨hrd5, hru5, fr5⟩ := id Hw5
          refine v_if_eq (tgt := 100) dX6_parse_77 (by decide) (fun c_77 => ?_) (fun c_77 => ?_)
          · first
              | (have c9 : w7 = 0 := c_93; obtain ⟨j9, n9, k9, v1, v2, v3, v4, v5, v6, g1, g2, g3⟩ := hf c9; exact t_pF G Qr b n tp k A d h _ _ j9 n9 k9 v1 v2 v3 v4 v5 v6 g2 (hk0 _ _ _ _ _ _ _ _ _ _ g1 g2 g3))
              | (have c9 : w6 = 0 := c_85; obtain ⟨j9, n9, k9, v1, v2, v3, v4, v5, v6, g1, g2, g3⟩ := hf c9; exact t_pF G Qr b n tp k A d h _ _ j9 n9 k9 v1 v2 v3 v4 v5 v6 g2 (hk0 _ _ _ _ _ _ _ _ _ _ g1 g2 g3))
              | (have c9 : w5 = 0 := c_77; obtain ⟨j9, n9, k9, v1, v2, v3, v4, v5, v6, g1, g2, g3⟩ := hf c9; exact t_pF G Qr b n tp k A d h _ _ j9 n9 k9 v1 v2 v3 v4 v5 v6 g2 (hk0 _ _ _ _ _ _ _ _ _ _ g1 g2 g3))
              | (have c9 : w4 = 0 := c_68; obtain ⟨j9, n9, k9, v1, v2, v3, v4, v5, v6, g1, g2, g3⟩ := hf c9; exact t_pF G Qr b n tp k A d h _ _ j9 n9 k9 v1 v2 v3 v4 v5 v6 g2 (hk0 _ _ _ _ _ _ _ _ _ _ g1 g2 g3))
              | (have c9 : w3 = 0 := c_60; obtain ⟨j9, n9, k9, v1, v2, v3, v4, v5, v6, g1, g2, g3⟩ := hf c9; exact t_pF G Qr b n tp k A d h _ _ j9 n9 k9 v1 v2 v3 v4 v5 v6 g2 (hk0 _ _ _ _ _ _ _ _ _ _ g1 g2 g3))
              | (have c9 : w2 = 0 := c_52; obtain ⟨j9, n9, k9, v1, v2, v3, v4, v5, v6, g1, g2, g3⟩ := hf c9; exact t_pF G Qr b n tp k A d h _ _ j9 n9 k9 v1 v2 v3 v4 v5 v6 g2 (hk0 _ _ _ _ _ _ _ _ _ _ g1 g2 g3))
              | (have c9 : w1 = 0 := c_43; obtain ⟨j9, n9, k9, v1, v2, v3, v4, v5, v6, g1, g2, g3⟩ := hf c9; exact t_pF G Qr b n tp k A d h _ _ j9 n9 k9 v1 v2 v3 v4 v5 v6 g2 (hk0 _ _ _ _ _ _ _ _ _ _ g1 g2 g3))
          · obtain ⟨c5, rfl⟩ : w_sg n tp 60 j4 ∧ j5 = j4 + 1 := by
              rcases e5 with ⟨_, r1, r2⟩ | ⟨r, _⟩
              · exact ⟨r1, r2⟩
              · exact absurd r c_77
            clear hf
            refine v_aload_n dX6_parse_80 rfl 2 rfl ?_
            refine v_aload_n dX6_parse_81 rfl 0 rfl ?_
            refine v_callVq (M' := mX6_takeLimit) (n := 1) (As := [_]) (ci := 4) (r := (RX6, TX6, 9)) gX6_parse_X6_takeLimit rfl (by decide +kernel) ⟨(Nat.le_of_ble_eq_true rfl), (Nat.le_of_ble_eq_true rfl)⟩ rfl rfl dX6_parse_82 rfl ⟨(Nat.le_of_ble_eq_true rfl), (Nat.le_of_ble_eq_true rfl)⟩ (Nat.le_of_ble_eq_true rfl) (by repeat (first | with_reducible assumption | (with_reducible refine sv_us.trans ?_; exact rfl) | with_reducible refine (sv_un (by omega)).trans ?_)) rfl (c_limitW G h _ b n tp k A d X9 (j4 + 1) (wV n tp j) ke y1 y2 x3 (-1) (-1) (-1) _ Hw5) (fun v h6 z6 hq => ?_)
            obtain ⟨rfl, w6, j6, y3, rfl, Hw6, e6⟩ := hq
            have hf : w6 = 0 → (∃ (j1 : Nat) (n1 : Int64) (ke : Nat) (y1 y2 y3 y4 y5 y6 : Int32), ke < 11 ∧ cw_ G b n tp k A d h h6 j1 n1 ke y1 y2 y3 y4 y5 y6 ∧ rd_rl n tp k nm d j = .inl j1) := by
              intro e0
              refine ⟨j6, _, _, _, _, _, _, _, _, hke, Hw6, ?_⟩
              rcases e6 with ⟨r, _⟩ | ⟨_, r2, r3⟩
              · exact absurd (r.symm.trans e0) (by decide)
              · rw [c4, rd_tl_n c5 r2, r3]
            obtain ⟨hrd6, hru6, fr6⟩ := id Hw6
            refine v_if_eq (tgt := 100) dX6_parse_85 (by decide) (fun c_85 => ?_) (fun c_85 => ?_)
            · first
                | (have c9 : w7 = 0 := c_93; obtain ⟨j9, n9, k9, v1, v2, v3, v4, v5, v6, g1, g2, g3⟩ := hf c9; exact t_pF G Qr b n tp k A d h _ _ j9 n9 k9 v1 v2 v3 v4 v5 v6 g2 (hk0 _ _ _ _ _ _ _ _ _ _ g1 g2 g3))
                | (have c9 : w6 = 0 := c_85; obtain ⟨j9, n9, k9, v1, v2, v3, v4, v5, v6, g1, g2, g3⟩ := hf c9; exact t_pF G Qr b n tp k A d h _ _ j9 n9 k9 v1 v2 v3 v4 v5 v6 g2 (hk0 _ _ _ _ _ _ _ _ _ _ g1 g2 g3))
                | (have c9 : w5 = 0 := c_77; obtain ⟨j9, n9, k9, v1, v2, v3, v4, v5, v6, g1, g2, g3⟩ := hf c9; exact t_pF G Qr b n tp k A d h _ _ j9 n9 k9 v1 v2 v3 v4 v5 v6 g2 (hk0 _ _ _ _ _ _ _ _ _ _ g1 g2 g3))
                | (have c9 : w4 = 0 := c_68; obtain ⟨j9, n9, k9, v1, v2, v3, v4, v5, v6, g1, g2, g3⟩ := hf c9; exact t_pF G Qr b n tp k A d h _ _ j9 n9 k9 v1 v2 v3 v4 v5 v6 g2 (hk0 _ _ _ _ _ _ _ _ _ _ g1 g2 g3))
                | (have c9 : w3 = 0 := c_60; obtain ⟨j9, n9, k9, v1, v2, v3, v4, v5, v6, g1, g2, g3⟩ := hf c9; exact t_pF G Qr b n tp k A d h _ _ j9 n9 k9 v1 v2 v3 v4 v5 v6 g2 (hk0 _ _ _ _ _ _ _ _ _ _ g1 g2 g3))
                | (have c9 : w2 = 0 := c_52; obtain ⟨j9, n9, k9, v1, v2, v3, v4, v5, v6, g1, g2, g3⟩ := hf c9; exact t_pF G Qr b n tp k A d h _ _ j9 n9 k9 v1 v2 v3 v4 v5 v6 g2 (hk0 _ _ _ _ _ _ _ _ _ _ g1 g2 g3))
                | (have c9 : w1 = 0 := c_43; obtain ⟨j9, n9, k9, v1, v2, v3, v4, v5, v6, g1, g2, g3⟩ := hf c9; exact t_pF G Qr b n tp k A d h _ _ j9 n9 k9 v1 v2 v3 v4 v5 v6 g2 (hk0 _ _ _ _ _ _ _ _ _ _ g1 g2 g3))
            · obtain ⟨c6, c6a, rfl⟩ : w_nu n tp 1000000000 (j4 + 1) ∧ y3 = w_nv n tp (j4 + 1) ∧ j6 = j4 + 2 := by
                rcases e6 with ⟨_, r1, r2, r3⟩ | ⟨r, _⟩
                · exact ⟨r1, r2, r3⟩
                · exact absurd r c_85
              clear hf
              refine v_aload_n dX6_parse_88 rfl 2 rfl ?_
              refine v_aload_n dX6_parse_89 rfl 0 rfl ?_
              refine v_callVq (M' := mX6_takeConditions) (n := 1) (As := [_]) (ci := 4) (r := (RX6, TX6, 9)) gX6_parse_X6_takeConditions rfl (by decide +kernel) ⟨(Nat.le_of_ble_eq_true rfl), (Nat.le_of_ble_eq_true rfl)⟩ rfl rfl dX6_parse_90 rfl ⟨(Nat.le_of_ble_eq_true rfl), (Nat.le_of_ble_eq_true rfl)⟩ (Nat.le_of_ble_eq_true rfl) (by repeat (first | with_reducible assumption | (with_reducible refine sv_us.trans ?_; exact rfl) | with_reducible refine (sv_un (by omega)).trans ?_)) rfl (c_condsW G h _ b n tp k A d X9 (wV n tp j) ke y1 y2 y3 hke (j4 + 2) _ Hw6) (fun v h7 z7 hq => ?_)
              obtain ⟨rfl, w7, j7, y4, y5, y6, rfl, Hw7, e7⟩ := hq
              have hf : w7 = 0 → (∃ (j1 : Nat) (n1 : Int64) (ke : Nat) (y1 y2 y3 y4 y5 y6 : Int32), ke < 11 ∧ cw_ G b n tp k A d h h7 j1 n1 ke y1 y2 y3 y4 y5 y6 ∧ rd_rl n tp k nm d j = .inl j1) := by
                intro e0
                refine ⟨j7, _, _, _, _, _, _, _, _, hke, Hw7, ?_⟩
                rcases e7 with ⟨r, _⟩ | ⟨_, r2⟩
                · exact absurd (r.symm.trans e0) (by decide)
                · rw [c4, rd_tl_p c5 c6, rd_ct, r2]
              obtain ⟨hrd7, hru7, fr7⟩ := id Hw7
              refine v_if_eq (tgt := 100) dX6_parse_93 (by decide) (fun c_93 => ?_) (fun c_93 => ?_)
              · first
                  | (have c9 : w7 = 0 := c_93; obtain ⟨j9, n9, k9, v1, v2, v3, v4, v5, v6, g1, g2, g3⟩ := hf c9; exact t_pF G Qr b n tp k A d h _ _ j9 n9 k9 v1 v2 v3 v4 v5 v6 g2 (hk0 _ _ _ _ _ _ _ _ _ _ g1 g2 g3))
                  | (have c9 : w6 = 0 := c_85; obtain ⟨j9, n9, k9, v1, v2, v3, v4, v5, v6, g1, g2, g3⟩ := hf c9; exact t_pF G Qr b n tp k A d h _ _ j9 n9 k9 v1 v2 v3 v4 v5 v6 g2 (hk0 _ _ _ _ _ _ _ _ _ _ g1 g2 g3))
                  | (have c9 : w5 = 0 := c_77; obtain ⟨j9, n9, k9, v1, v2, v3, v4, v5, v6, g1, g2, g3⟩ := hf c9; exact t_pF G Qr b n tp k A d h _ _ j9 n9 k9 v1 v2 v3 v4 v5 v6 g2 (hk0 _ _ _ _ _ _ _ _ _ _ g1 g2 g3))
                  | (have c9 : w4 = 0 := c_68; obtain ⟨j9, n9, k9, v1, v2, v3, v4, v5, v6, g1, g2, g3⟩ := hf c9; exact t_pF G Qr b n tp k A d h _ _ j9 n9 k9 v1 v2 v3 v4 v5 v6 g2 (hk0 _ _ _ _ _ _ _ _ _ _ g1 g2 g3))
                  | (have c9 : w3 = 0 := c_60; obtain ⟨j9, n9, k9, v1, v2, v3, v4, v5, v6, g1, g2, g3⟩ := hf c9; exact t_pF G Qr b n tp k A d h _ _ j9 n9 k9 v1 v2 v3 v4 v5 v6 g2 (hk0 _ _ _ _ _ _ _ _ _ _ g1 g2 g3))
                  | (have c9 : w2 = 0 := c_52; obtain ⟨j9, n9, k9, v1, v2, v3, v4, v5, v6, g1, g2, g3⟩ := hf c9; exact t_pF G Qr b n tp k A d h _ _ j9 n9 k9 v1 v2 v3 v4 v5 v6 g2 (hk0 _ _ _ _ _ _ _ _ _ _ g1 g2 g3))
                  | (have c9 : w1 = 0 := c_43; obtain ⟨j9, n9, k9, v1, v2, v3, v4, v5, v6, g1, g2, g3⟩ := hf c9; exact t_pF G Qr b n tp k A d h _ _ j9 n9 k9 v1 v2 v3 v4 v5 v6 g2 (hk0 _ _ _ _ _ _ _ _ _ _ g1 g2 g3))
              · refine v_iconst (v := 1) dX6_parse_96 (by decide) ?_
                refine v_goto (tgt := 101) dX6_parse_97 (by decide) ?_
                refine v_istore_n (L' := [(3, _), (2, _), (1, _), (0, _)]) dX6_parse_101 rfl (Nat.le_of_ble_eq_true rfl) rfl ?_
                refine v_iload_n dX6_parse_102 rfl 0 rfl ?_
                refine v_if_ne (tgt := 113) dX6_parse_103 (by decide) (fun c_103 => ?_) (fun c_103 => ?_)
                · refine v_sub (L' := [(2, _), (1, _), (0, _)]) [1, 2, 3] rfl ?_
                  refine hk1 _ j7 _ ke y1 y2 y3 y4 y5 y6 hke Hw7 rfl ?_
                  rcases e7 with ⟨_, r⟩ | ⟨r, _⟩
                  · rw [c4, rd_tl_p c5 c6, rd_ct, r, c6a]
                  · exact absurd r c_93
                · exact absurd c_103 (by decide)

set_option maxHeartbeats 4000000 in
set_option maxRecDepth 100000 in
theorem t_pG (G : sv_G) (Qr : Option Value → sv_h → Nat → Prop) (b n : Nat) (tp : Nat → Int32) (k : Int32) (A d : Nat) (h h1 : sv_h) (z j : Nat) (n0 : Int64) (kd : Nat) (x1 x2 x3 x4 x5 x6 : Int32) (Hw : cw_ G b n tp k A d h h1 j n0 kd x1 x2 x3 x4 x5 x6) (hk : wS n tp j = 0 → Qr (some (.int (nI (d + 1)))) (va_up h1 (b + 10) (rd_at b k (nI (d + 1)) A n tp j)) z) (hl : ¬ wS n tp j = 0 → V G mX6_parse (sv_MQ G mX6_parse Qr) 21 [(1, .int (nI (d + 1))), (0, .ref (b + 10))] [] (va_up h1 (b + 10) (rd_at b k (nI (d + 1)) A n tp j)) z 0 0) : V G mX6_parse (sv_MQ G mX6_parse Qr) 113 [(2, .ref (A + 1 + d)), (1, .int (nI d)), (0, .ref (b + 10))] [] h1 z 0 0 := by
  obtain ⟨hrd, hru, fr⟩ := id Hw
  refine v_aload_n dX6_parse_113 rfl 2 rfl ?_
  refine v_dup dX6_parse_114 rfl ?_
  refine v_getf 3 (ci := 4) (C := RX6) (T := TX6) (N := 9) rfl iwX6_parse_X6 (Nat.le_of_ble_eq_true rfl) (by decide +kernel) dX6_parse_115 (by repeat (first | with_reducible assumption | (with_reducible refine sv_us.trans ?_; exact rfl) | with_reducible refine (sv_un (by omega)).trans ?_)) (by exact rfl) ?_
  refine v_iconst (v := 1) dX6_parse_118 (by decide) ?_
  refine v_iadd dX6_parse_119 ?_
  rw [nI_1]
  refine v_putf 3 (fs' := [_, _, _, _, _, _, _, _, _]) (ci := 4) (C := RX6) (T := TX6) (N := 9) (ty := .int) rfl iwX6_parse_X6 tyX6 tyX6_ok nmX6 (Nat.le_of_ble_eq_true rfl) (by decide +kernel) rfl rfl dX6_parse_120 rfl rfl (by repeat (first | with_reducible assumption | (with_reducible refine sv_us.trans ?_; exact rfl) | with_reducible refine (sv_un (by omega)).trans ?_)) (Nat.le_of_ble_eq_true rfl) rfl ?_
  refine v_aload_n dX6_parse_123 rfl 2 rfl ?_
  refine v_getf 5 (ci := 4) (C := RX6) (T := TX6) (N := 9) rfl iwX6_parse_X6 (Nat.le_of_ble_eq_true rfl) (by decide +kernel) dX6_parse_124 (by repeat (first | with_reducible assumption | (with_reducible refine sv_us.trans ?_; exact rfl) | with_reducible refine (sv_un (by omega)).trans ?_)) (by exact rfl) ?_
  refine v_if_ne (tgt := 135) dX6_parse_127 (by decide) (fun c_127 => ?_) (fun c_127 => ?_)
  · refine v_iinc (j := 1) (L' := [(1, _), (2, _), (0, _)]) (v := nI (d + 1)) dX6_parse_135 rfl (nI_1 _) (Nat.le_of_ble_eq_true rfl) rfl ?_
    refine v_goto (tgt := 21) dX6_parse_138 (by decide) ?_
    refine v_sub (L' := [(1, _), (0, _)]) [0, 2] rfl ?_
    exact hl c_127
  · refine v_aload_n dX6_parse_130 rfl 2 rfl ?_
    refine v_getf 3 (ci := 4) (C := RX6) (T := TX6) (N := 9) rfl iwX6_parse_X6 (Nat.le_of_ble_eq_true rfl) (by decide +kernel) dX6_parse_131 (by repeat (first | with_reducible assumption | (with_reducible refine sv_us.trans ?_; exact rfl) | with_reducible refine (sv_un (by omega)).trans ?_)) (by exact rfl) ?_
    exact v_iret rfl dX6_parse_134 (Nat.le_of_ble_eq_true rfl) (Nat.le_of_ble_eq_true rfl) rfl (hk c_127)

set_option maxHeartbeats 4000000 in
set_option maxRecDepth 100000 in
theorem l_parse (G : sv_G) (h0 : sv_h) (z b n : Nat) (tp : Nat → Int32) (k : Int32) (A : Nat) (Y : cy_ G b n tp h0 A) : ∀ (c d j : Nat) (nm : Nat → Int64) (r : Nat → Nat → Int32) (h : sv_h), cp_ G b n tp k A h0 h j d nm r → d + c = 20 → j ≤ 600 → V G mX6_parse (sv_MQ G mX6_parse (fun v h1 z1 => z1 = z ∧ ((∃ (d1 : Nat) (r1 : Nat → Nat → Int32) (j1 : Nat) (nm1 : Nat → Int64), rd_all n tp k c d nm r j = .inr (d1, r1) ∧ v = some (.int (nI d1)) ∧ d1 ≤ 20 ∧ cp_ G b n tp k A h0 h1 j1 d1 nm1 r1) ∨ (∃ (e d1 j1 : Nat), rd_all n tp k c d nm r j = .inl e ∧ e ≤ 600 ∧ v = some (.int (-1 - nI e)) ∧ h1 (b + 10) = rd_at b k (nI d1) A n tp j1 ∧ cv_ G b A h0 h1)))) 21 [(1, .int (nI d)), (0, .ref (b + 10))] [] h z 0 0 := by
  intro c
  induction c with
  | zero =>
    intro d j nm r h H hdc hj
    obtain ⟨hrd, Hv, hro⟩ := id H
    obtain ⟨hn, hok, t1, ⟨f, t2, htp⟩, hA, fq, hQ0, hfq⟩ := id Y
    refine v_iload_n dX6_parse_21 rfl 0 rfl ?_
    refine v_bipush (v := 20) dX6_parse_22 (by decide) ?_
    refine v_icmp_ge (tgt := 141) dX6_parse_24 (by decide) (fun c_24 => ?_) (fun c_24 => ?_)
    · refine v_iconst (v := (-1)) dX6_parse_141 (by decide) ?_
      refine v_aload_n dX6_parse_142 rfl 1 rfl ?_
      refine v_getf 4 (ci := 4) (C := RX6) (T := TX6) (N := 9) rfl iwX6_parse_X6 (Nat.le_of_ble_eq_true rfl) (by decide +kernel) dX6_parse_143 (by first | with_reducible assumption) rfl ?_
      refine v_isub dX6_parse_146 ?_
      exact v_iret rfl dX6_parse_147 (Nat.le_of_ble_eq_true rfl) (Nat.le_of_ble_eq_true rfl) rfl ⟨rfl, Or.inr ⟨j, d, j, rfl, hj, rfl, hrd, Hv⟩⟩
    · exact absurd (nI_le (show 20 ≤ d by omega) (by omega)) c_24
  | succ c ih =>
    intro d j nm r h H hdc hj
    obtain ⟨hrd, Hv, hro⟩ := id H
    obtain ⟨hn, hok, t1, ⟨f, t2, htp⟩, hA, fq, hQ0, hfq⟩ := id Y
    have hd : d < 20 := by omega
    obtain ⟨n0, kd, x1, x2, x3, x4, x5, x6, hkd, hru⟩ := Hv.1 d hd
    have hQ : ab_Q G h A 5 20 fq := (Hv.2 A (by omega) (by omega)).trans hQ0
    have X9 : cx_ G b n tp h A d := ⟨hn, hok, (Hv.2 (b + 8) (by omega) (by omega)).trans t1, ⟨f, (Hv.2 (b + 9) (by omega) (by omega)).trans t2, htp⟩, hA, hd⟩
    have Hw : cw_ G b n tp k A d h h j n0 kd x1 x2 x3 x4 x5 x6 := ⟨hrd, hru, fun _ _ _ => rfl⟩
    refine v_iload_n dX6_parse_21 rfl 0 rfl ?_
    refine v_bipush (v := 20) dX6_parse_22 (by decide) ?_
    refine v_icmp_ge (tgt := 141) dX6_parse_24 (by decide) (fun c_24 => ?_) (fun c_24 => ?_)
    · exact absurd c_24 (nI_ge (a := d) (b := 20) hd (by decide))
    · refine v_aload_n dX6_parse_27 rfl 1 rfl ?_
      refine v_getf 2 (ci := 4) (C := RX6) (T := TX6) (N := 9) rfl iwX6_parse_X6 (Nat.le_of_ble_eq_true rfl) (by decide +kernel) dX6_parse_28 (by first | with_reducible assumption) rfl ?_
      refine v_iload_n dX6_parse_31 rfl 0 rfl ?_
      refine v_aaldS (t := 5) (q := A + 1 + d) dX6_parse_32 (fun _ => rfl) (by first | with_reducible assumption) (vp_in_nI hd (by omega)) (by rw [nI_clamp (by omega)]; exact hfq d hd) ?_
      refine v_astore_n (L' := [(2, _), (1, _), (0, _)]) dX6_parse_33 rfl (Nat.le_of_ble_eq_true rfl) rfl ?_
      refine v_sub (L' := [(2, _), (1, _), (0, _)]) [0, 1, 2] rfl ?_
      have B := rd_rl_b hn (ly := k) (nm := nm) (d := d) hj (tp := tp)
      refine t_pR G _ h z b n tp k A d X9 j n0 kd x1 x2 x3 x4 x5 x6 Hw hkd fq hQ hfq nm (fun i hi => ?_) ?_ ?_
      · obtain ⟨ke, _, _, r3⟩ := hro i hi
        exact ⟨_, _, _, _, _, _, _, r3⟩
      · intro h1 j1 n1 ke y1 y2 y3 y4 y5 y6 g1 g2 g3
        exact ⟨rfl, Or.inr ⟨j1, d, j1, by rw [rd_all, g3], B.1 _ g3, rfl, g2.1, g2.cv hd hA Hv g1⟩⟩
      · intro h1 j1 n1 ke y1 y2 y3 y4 y5 y6 g1 g2 g3 g4
        have g5 := H.succ hd hA g2 g1
        rw [g3] at g5
        refine t_pG G _ b n tp k A d h h1 z j1 n1 ke y1 y2 y3 y4 y5 y6 g2 (fun q => ?_) (fun q => ?_)
        · exact ⟨rfl, Or.inl ⟨d + 1, _, j1, _, by rw [rd_all, g4]; exact if_pos q, rfl, by omega, g5⟩⟩
        · refine v_mq ?_ (ih (d + 1) j1 _ _ _ g5 (by omega) (B.2 _ _ g4))
          intro v h2 z2 hq
          have e9 : rd_all n tp k (c + 1) d nm r j = rd_all n tp k c (d + 1) (rd_un nm d (wV n tp j)) (rd_ut r d (rd_row (nI ke) y1 y2 y3 y4 y5 y6)) j1 := by
            rw [rd_all, g4]; exact if_neg q
          rw [e9]
          exact hq

set_option maxHeartbeats 4000000 in
set_option maxRecDepth 100000 in
theorem c_parse (G : sv_G) (h0 : sv_h) (z b n : Nat) (tp : Nat → Int32) (k : Int32) (A : Nat) (Y : cy_ G b n tp h0 A) (hR : ab_Rdr G h0 b A k) (hro : ∀ i, i < 20 → ∃ (n0 : Int64) (kd : Nat) (x1 x2 x3 x4 x5 x6 : Int32), kd < 11 ∧ h0 (A + 1 + i) = some (.inr (5, [.long n0, .ref (G.2.2.2.2.1 kd), .int x1, .int x2, .int x3, .int x4, .int x5, .int x6]))) : CT G mX6_parse [.ref (b + 10)] h0 z (fun v h1 z1 => z1 = z ∧ ((∃ (d1 : Nat) (r1 : Nat → Nat → Int32) (j1 : Nat) (nm1 : Nat → Int64), rd_all n tp k 20 0 (fun _ => 0) (fun _ _ => 0) 0 = .inr (d1, r1) ∧ v = some (.int (nI d1)) ∧ d1 ≤ 20 ∧ cp_ G b n tp k A h0 h1 j1 d1 nm1 r1) ∨ (∃ (e d1 j1 : Nat), rd_all n tp k 20 0 (fun _ => 0) (fun _ _ => 0) 0 = .inl e ∧ e ≤ 600 ∧ v = some (.int (-1 - nI e)) ∧ h1 (b + 10) = rd_at b k (nI d1) A n tp j1 ∧ cv_ G b A h0 h1))) := by
  refine CT.of (by decide +kernel) rfl rfl (Nat.le_of_ble_eq_true rfl) ?_
  obtain ⟨hn, hok, t1, ⟨f, t2, htp⟩, hA, fq, hQ0, hfq⟩ := id Y
  obtain ⟨x3, x4, x5, x6, x7, x8, hrd⟩ := hR
  refine v_aload_n dX6_parse_0 rfl 0 rfl ?_
  refine v_iconst (v := (-1)) dX6_parse_1 (by decide) ?_
  refine v_putf 4 (fs' := [_, _, _, _, _, _, _, _, _]) (ci := 4) (C := RX6) (T := TX6) (N := 9) (ty := .int) rfl iwX6_parse_X6 tyX6 tyX6_ok nmX6 (Nat.le_of_ble_eq_true rfl) (by decide +kernel) rfl rfl dX6_parse_2 rfl rfl (by repeat (first | with_reducible assumption | (with_reducible refine sv_us.trans ?_; exact rfl) | with_reducible refine (sv_un (by omega)).trans ?_)) (Nat.le_of_ble_eq_true rfl) rfl ?_
  refine v_aload_n dX6_parse_5 rfl 0 rfl ?_
  refine v_iconst (v := 0) dX6_parse_6 (by decide) ?_
  refine v_putf 7 (fs' := [_, _, _, _, _, _, _, _, _]) (ci := 4) (C := RX6) (T := TX6) (N := 9) (ty := .int) rfl iwX6_parse_X6 tyX6 tyX6_ok nmX6 (Nat.le_of_ble_eq_true rfl) (by decide +kernel) rfl rfl dX6_parse_7 rfl rfl (by repeat (first | with_reducible assumption | (with_reducible refine sv_us.trans ?_; exact rfl) | with_reducible refine (sv_un (by omega)).trans ?_)) (Nat.le_of_ble_eq_true rfl) rfl ?_
  refine v_aload_n dX6_parse_10 rfl 0 rfl ?_
  refine v_iconst (v := 0) dX6_parse_11 (by decide) ?_
  refine v_putf 3 (fs' := [_, _, _, _, _, _, _, _, _]) (ci := 4) (C := RX6) (T := TX6) (N := 9) (ty := .int) rfl iwX6_parse_X6 tyX6 tyX6_ok nmX6 (Nat.le_of_ble_eq_true rfl) (by decide +kernel) rfl rfl dX6_parse_12 rfl rfl (by repeat (first | with_reducible assumption | (with_reducible refine sv_us.trans ?_; exact rfl) | with_reducible refine (sv_un (by omega)).trans ?_)) (Nat.le_of_ble_eq_true rfl) rfl ?_
  refine v_aload_n dX6_parse_15 rfl 0 rfl ?_
  refine v_callVq (M' := mX6_step) (n := 0) (As := []) (ci := 4) (r := (RX6, TX6, 9)) gX6_parse_X6_step rfl (by decide +kernel) ⟨(Nat.le_of_ble_eq_true rfl), (Nat.le_of_ble_eq_true rfl)⟩ rfl rfl dX6_parse_16 rfl ⟨(Nat.le_of_ble_eq_true rfl), (Nat.le_of_ble_eq_true rfl)⟩ (Nat.le_of_ble_eq_true rfl) (by repeat (first | with_reducible assumption | (with_reducible refine sv_us.trans ?_; exact rfl) | with_reducible refine (sv_un (by omega)).trans ?_)) rfl (c_step G _ z b n k 0 (-1) A f tp ((sv_un (by omega)).trans ((sv_un (by omega)).trans ((sv_un (by omega)).trans t1))) ((sv_un (by omega)).trans ((sv_un (by omega)).trans ((sv_un (by omega)).trans t2))) htp hn 0 (Nat.zero_le n) _ _ _ (sv_us.trans rfl)) (fun v h1 z1 hq => ?_)
  obtain ⟨rfl, rfl, ⟨a1, e1, T1, k2⟩, k3⟩ := hq
  refine v_iconst (v := 0) dX6_parse_19 (by decide) ?_
  refine v_istore_n (L' := [(1, _), (0, _)]) dX6_parse_20 rfl (Nat.le_of_ble_eq_true rfl) rfl ?_
  refine v_sub (L' := [(1, _), (0, _)]) [0, 1] rfl ?_
  obtain ⟨rfl, rfl⟩ := lx_W_0 T1
  refine l_parse G h0 _ b n tp k A Y 20 0 0 (fun _ => 0) (fun _ _ => 0) _ ⟨k2, ⟨fun i hi => ?_, fun w p q => ?_⟩, fun i hi => absurd hi (Nat.not_lt_zero i)⟩ (by omega) (by omega)
  · obtain ⟨n0, kd, x1, x2, x3, x4, x5, x6, r1, r2⟩ := hro i hi
    exact ⟨n0, kd, x1, x2, x3, x4, x5, x6, r1, (k3 _ (by omega)).trans ((sv_un (by omega)).trans ((sv_un (by omega)).trans ((sv_un (by omega)).trans r2)))⟩
  · exact (k3 w p).trans ((sv_un p).trans ((sv_un p).trans ((sv_un p).trans rfl)))

