noncomputable abbrev ms_ (b n : Nat) (tp : Nat → Int32) (fs F : List Value) (j : Nat) (r : Int32) : Prop := mr_st b n fs F (nI j) (lx_W n tp j).1 (lx_W n tp j).2 r
theorem ms_nx {b n : Nat} {tp : Nat → Int32} {fs F : List Value} {j a1 e1 : Nat} {r : Int32} (T : lx_T n tp (lx_W n tp j).2 a1 e1) (H : mr_st b n fs F (nI j + 1) a1 e1 r) : ms_ b n tp fs F (j + 1) r := by
  obtain ⟨rfl, rfl⟩ := lx_W_1 T
  rw [nI_1] at H
  exact H
theorem m_takeJ (G : sv_G) (h : sv_h) (z b n : Nat) (fs F : List Value) (f tp : Nat → Int32) (j : Nat) (r : Int32) (ht2 : ab_I G h (b + 232) 600 f) (htp : ∀ i, i < n → f i = tp i) (hn : n ≤ 600) (hm : h (b + 220) = some (.inr (11, F))) (H : ms_ b n tp fs F j r) (hv : Int32) (hr : r = 0 ∨ r = 1) (hh : hv = 0 ∨ hv = 1) : CT G mX13_take_ [.ref (b + 220), .int hv] h z (fun v h1 z1 => v = none ∧ z1 = z ∧ (∃ (F1 : List Value) (j1 : Nat) (r1 : Int32), h1 (b + 220) = some (.inr (11, F1)) ∧ ms_ b n tp fs F1 j1 r1 ∧ ((r1 = 1 ∧ (r = 1 ∧ hv = 1) ∧ j1 = j + 1) ∨ (r1 = 0 ∧ ¬ (r = 1 ∧ hv = 1) ∧ j1 = j))) ∧ ∀ w, w ≠ b + 220 → h1 w = h w) :=
  (m_take G h z b n fs F f tp (nI j) _ _ r ht2 htp hn (lx_W_le n tp j).1 (lx_W_le n tp j).2 hm H hv hr hh).mono (fun v h1 z1 _ hq => by
    obtain ⟨q1, q2, ⟨F1, q3, q4⟩, q5⟩ := hq
    refine ⟨q1, q2, ?_, q5⟩
    rcases q4 with ⟨r1, r2, a1, e1, T, r3⟩ | ⟨r1, r2⟩
    · exact ⟨F1, j + 1, 1, q3, ms_nx T r3, Or.inl ⟨rfl, ⟨r1, r2⟩, rfl⟩⟩
    · exact ⟨F1, j, 0, q3, r2, Or.inr ⟨rfl, r1, rfl⟩⟩)
theorem m_numberJ (G : sv_G) (h : sv_h) (z b n : Nat) (fs F : List Value) (f tp : Nat → Int32) (j : Nat) (r : Int32) (ht2 : ab_I G h (b + 232) 600 f) (htp : ∀ i, i < n → f i = tp i) (hn : n ≤ 600) (hm : h (b + 220) = some (.inr (11, F))) (H : ms_ b n tp fs F j r) (hok : ∀ i, i < n → tp i = 10 ∨ (32 ≤ tp i ∧ tp i ≤ 126)) (c : Int32) (hr : r = 0 ∨ r = 1) : CT G mX13_number [.ref (b + 220), .long c.toInt64] h z (fun v h1 z1 => v = some (.long (if wS n tp j = 3 then wV n tp j else 0)) ∧ z1 = z ∧ (∃ (F1 : List Value) (j1 : Nat) (r1 : Int32), h1 (b + 220) = some (.inr (11, F1)) ∧ ms_ b n tp fs F1 j1 r1 ∧ ((r1 = 1 ∧ (r = 1 ∧ w_nu n tp c j) ∧ j1 = j + 1) ∨ (r1 = 0 ∧ ¬ (r = 1 ∧ w_nu n tp c j) ∧ j1 = j))) ∧ ∀ w, w ≠ b + 220 → h1 w = h w) :=
  (m_number G h z b n fs F f tp (nI j) _ _ r ht2 htp hn (lx_W_le n tp j).1 (lx_W_le n tp j).2 hm H c.toInt64 hr hok).mono (fun v h1 z1 _ hq => by
    obtain ⟨q1, q2, ⟨F1, q3, q4⟩, q5⟩ := hq
    obtain ⟨p, Tj⟩ := lx_W_ok n tp j
    have hg : wS n tp j = 3 ↔ _ := lx_num Tj
    have hv : (if (lx_W n tp j).1 < (lx_W n tp j).2 ∧ lx_so (tp (lx_W n tp j).1) = 3 ∧ (lx_W n tp j).2 - (lx_W n tp j).1 ≤ 9 then lx_va tp 48 10 (lx_W n tp j).1 ((lx_W n tp j).2 - (lx_W n tp j).1) else 0) = (if wS n tp j = 3 then wV n tp j else 0) := by
      by_cases e : wS n tp j = 3
      · rw [if_pos e, if_pos (hg.mp e)]; exact (lx_numv Tj e).symm
      · rw [if_neg e, if_neg (fun q => e (hg.mpr q))]
    have hP : ∀ {x : Prop}, (r = 1 ∧ ((lx_W n tp j).1 < (lx_W n tp j).2 ∧ lx_so (tp (lx_W n tp j).1) = 3 ∧ (lx_W n tp j).2 - (lx_W n tp j).1 ≤ 9) ∧ (if wS n tp j = 3 then wV n tp j else 0) < c.toInt64) ↔ (r = 1 ∧ w_nu n tp c j) := by
      intro _
      constructor
      · rintro ⟨a, b, d⟩
        rw [if_pos (hg.mpr b)] at d
        exact ⟨a, hg.mpr b, d⟩
      · rintro ⟨a, b, d⟩
        exact ⟨a, hg.mp b, by rw [if_pos b]; exact d⟩
    rw [hv] at q1 q4
    refine ⟨q1, q2, ?_, q5⟩
    rcases q4 with ⟨r1, r2, r3, a1, e1, T, r4⟩ | ⟨r1, r2⟩
    · exact ⟨F1, j + 1, 1, q3, ms_nx T r4, Or.inl ⟨rfl, (hP (x := True)).mp ⟨r1, r2, r3⟩, rfl⟩⟩
    · exact ⟨F1, j, 0, q3, r2, Or.inr ⟨rfl, fun q => r1 ((hP (x := True)).mpr q), rfl⟩⟩)
theorem m_isJ (G : sv_G) (h : sv_h) (z b n : Nat) (fs F : List Value) (f tp : Nat → Int32) (j : Nat) (r : Int32) (ht2 : ab_I G h (b + 232) 600 f) (htp : ∀ i, i < n → f i = tp i) (hn : n ≤ 600) (hm : h (b + 220) = some (.inr (11, F))) (H : ms_ b n tp fs F j r) (c : Int32) (hc : lx_so c = 4) : CT G mX13_is [.ref (b + 220), .int c] h z (fun v h1 z1 => v = some (.int (if w_sg n tp c j then 1 else 0)) ∧ h1 = h ∧ z1 = z) :=
  (m_is G h z b n _ _ F f tp ht2 htp hn H.1 hm H.2.2.1 H.2.2.2.1 H.2.2.2.2.2.2.1 (lx_W_le n tp j).1 (lx_W_le n tp j).2 c).mono (fun v h1 z1 _ hq => by
    obtain ⟨p, Tj⟩ := lx_W_ok n tp j
    have hg : w_sg n tp c j ↔ _ := lx_sign Tj hc
    refine ⟨hq.1.trans ?_, hq.2⟩
    by_cases e : w_sg n tp c j
    · rw [if_pos e, if_pos (hg.mp e)]
    · rw [if_neg e, if_neg (fun q => e (hg.mpr q))])
theorem m_nameJ (G : sv_G) (h : sv_h) (z b n : Nat) (fs F : List Value) (f tp : Nat → Int32) (j : Nat) (r : Int32) (ht2 : ab_I G h (b + 232) 600 f) (htp : ∀ i, i < n → f i = tp i) (hn : n ≤ 600) (hm : h (b + 220) = some (.inr (11, F))) (H : ms_ b n tp fs F j r) (hok : ∀ i, i < n → tp i = 10 ∨ (32 ≤ tp i ∧ tp i ≤ 126)) : CT G mX13_name [.ref (b + 220)] h z (fun v h1 z1 => v = some (.long (if wS n tp j = 2 then wV n tp j else 0)) ∧ h1 = h ∧ z1 = z) :=
  (m_name G h z b n _ _ F f tp ht2 htp hn H.1 hm H.2.2.1 H.2.2.2.1 H.2.2.2.2.2.2.1 (lx_W_le n tp j).1 (lx_W_le n tp j).2 hok).mono (fun v h1 z1 _ hq => by
    obtain ⟨p, Tj⟩ := lx_W_ok n tp j
    have hg : wS n tp j = 2 ↔ _ := lx_nam Tj
    refine ⟨hq.1.trans ?_, hq.2⟩
    by_cases e : wS n tp j = 2
    · rw [if_pos e, if_pos (hg.mp e)]; exact congrArg (fun i => some (Value.long i)) (lx_namv Tj e).symm
    · rw [if_neg e, if_neg (fun q => e (hg.mpr q))])
theorem w_nm {n : Nat} {tp : Nat → Int32} {j : Nat} {w : Int64} (hw : ¬ (0 : Int64) = w) : (if wS n tp j = 2 then wV n tp j else 0) = w ↔ w_is n tp w j := by
  constructor
  · intro h
    by_cases e : wS n tp j = 2
    · rw [if_pos e] at h; exact ⟨e, h⟩
    · rw [if_neg e] at h; exact absurd h hw
  · intro h
    rw [if_pos h.1]; exact h.2
theorem cd_1 {n : Nat} {tp : Nat → Int32} {k x4 x5 x6 : Int32} {j : Nat} : cd_w n tp k x4 x5 x6 j = 1 ↔ (w_is n tp (mk_5 114 117 110 0 0) j ∧ x4 = -1 ∧ (k = 0 ∨ k = 1 ∨ k = 7 ∨ k = 9 ∨ k = 10)) := by
  unfold cd_w
  constructor
  · intro h
    by_cases a : (w_is n tp (mk_5 114 117 110 0 0) j ∧ x4 = -1 ∧ (k = 0 ∨ k = 1 ∨ k = 7 ∨ k = 9 ∨ k = 10))
    · exact a
    · rw [if_neg a] at h
      exfalso
      revert h
      split
      · decide
      · split <;> decide
  · exact fun a => if_pos a
theorem cd_2 {n : Nat} {tp : Nat → Int32} {k x4 x5 x6 : Int32} {j : Nat} : cd_w n tp k x4 x5 x6 j = 2 ↔ (w_is n tp (mk_5 118 111 108 116 0) j ∧ x5 = -1 ∧ (k = 7 ∨ k = 8)) := by
  unfold cd_w
  constructor
  · intro h
    by_cases a : (w_is n tp (mk_5 114 117 110 0 0) j ∧ x4 = -1 ∧ (k = 0 ∨ k = 1 ∨ k = 7 ∨ k = 9 ∨ k = 10))
    · rw [if_pos a] at h; exact absurd h (by decide)
    · rw [if_neg a] at h
      by_cases c : (w_is n tp (mk_5 118 111 108 116 0) j ∧ x5 = -1 ∧ (k = 7 ∨ k = 8))
      · exact c
      · rw [if_neg c] at h
        exfalso
        revert h
        split <;> decide
  · intro c
    rw [if_neg (fun r => absurd (c.1.2.symm.trans r.1.2) (by decide)), if_pos c]
theorem cd_3 {n : Nat} {tp : Nat → Int32} {k x4 x5 x6 : Int32} {j : Nat} : cd_w n tp k x4 x5 x6 j = 3 ↔ (w_is n tp (mk_5 101 110 100 0 0) j ∧ x6 = -1 ∧ k = 7) := by
  unfold cd_w
  constructor
  · intro h
    by_cases a : (w_is n tp (mk_5 114 117 110 0 0) j ∧ x4 = -1 ∧ (k = 0 ∨ k = 1 ∨ k = 7 ∨ k = 9 ∨ k = 10))
    · rw [if_pos a] at h; exact absurd h (by decide)
    · rw [if_neg a] at h
      by_cases c : (w_is n tp (mk_5 118 111 108 116 0) j ∧ x5 = -1 ∧ (k = 7 ∨ k = 8))
      · rw [if_pos c] at h; exact absurd h (by decide)
      · rw [if_neg c] at h
        by_cases d : (w_is n tp (mk_5 101 110 100 0 0) j ∧ x6 = -1 ∧ k = 7)
        · exact d
        · rw [if_neg d] at h; exact absurd h (by decide)
  · intro c
    rw [if_neg (fun r => absurd (c.1.2.symm.trans r.1.2) (by decide)), if_neg (fun r => absurd (c.1.2.symm.trans r.1.2) (by decide)), if_pos c]
theorem cd_0 {n : Nat} {tp : Nat → Int32} {k x4 x5 x6 : Int32} {j : Nat} : cd_w n tp k x4 x5 x6 j = 0 ↔ (¬ (w_is n tp (mk_5 114 117 110 0 0) j ∧ x4 = -1 ∧ (k = 0 ∨ k = 1 ∨ k = 7 ∨ k = 9 ∨ k = 10)) ∧ ¬ (w_is n tp (mk_5 118 111 108 116 0) j ∧ x5 = -1 ∧ (k = 7 ∨ k = 8)) ∧ ¬ (w_is n tp (mk_5 101 110 100 0 0) j ∧ x6 = -1 ∧ k = 7)) := by
  constructor
  · intro h
    exact ⟨fun a => absurd (h.symm.trans (cd_1.mpr a)) (by decide), fun a => absurd (h.symm.trans (cd_2.mpr a)) (by decide), fun a => absurd (h.symm.trans (cd_3.mpr a)) (by decide)⟩
  · intro h
    unfold cd_w
    rw [if_neg h.1, if_neg h.2.1, if_neg h.2.2]
set_option maxHeartbeats 4000000 in
set_option maxRecDepth 100000 in
theorem t_c4e (G : sv_G) (h : sv_h) (z b n : Nat) (fs F : List Value) (f tp : Nat → Int32) (j : Nat) (ht2 : ab_I G h (b + 232) 600 f) (htp : ∀ i, i < n → f i = tp i) (hn : n ≤ 600) (hm : h (b + 220) = some (.inr (11, F))) (H : ms_ b n tp fs F j 1) (hok : ∀ i, i < n → tp i = 10 ∨ (32 ≤ tp i ∧ tp i ≤ 126)) (rr : Nat) (hrr : rr < 40) (fk : Nat → Int32) (fr fv fe : Nat → Int64) (hk0 : ab_I G h (b + 233) 40 fk) (hr0 : ab_J G h (b + 237) 40 fr) (hv0 : ab_J G h (b + 238) 40 fv) (he0 : ab_J G h (b + 239) 40 fe) (q1 : fs[19]? = some (.ref (b + 233))) (q2 : fs[23]? = some (.ref (b + 237))) (q3 : fs[24]? = some (.ref (b + 238))) (q4 : fs[25]? = some (.ref (b + 239))) (k x4 x5 x6 : Int32) (uk : fk rr = k) (u4 : fr rr = x4.toInt64) (u5 : fv rr = x5.toInt64) (u6 : fe rr = x6.toInt64) (v4 : x4 = -1 ∨ 0 ≤ x4) (v5 : x5 = -1 ∨ 0 ≤ x5) (v6 : x6 = -1 ∨ 0 ≤ x6) (w5 w6 w7 : Int32) (b5 : ((w5 = 1 ∧ (w_is n tp (mk_5 114 117 110 0 0) j ∧ x4 = -1 ∧ (k = 0 ∨ k = 1 ∨ k = 7 ∨ k = 9 ∨ k = 10))) ∨ (w5 = 0 ∧ ¬ (w_is n tp (mk_5 114 117 110 0 0) j ∧ x4 = -1 ∧ (k = 0 ∨ k = 1 ∨ k = 7 ∨ k = 9 ∨ k = 10))))) (b6 : ((w6 = 1 ∧ (w_is n tp (mk_5 118 111 108 116 0) j ∧ x5 = -1 ∧ (k = 7 ∨ k = 8))) ∨ (w6 = 0 ∧ ¬ (w_is n tp (mk_5 118 111 108 116 0) j ∧ x5 = -1 ∧ (k = 7 ∨ k = 8))))) (b7 : ((w7 = 1 ∧ (w_is n tp (mk_5 101 110 100 0 0) j ∧ x6 = -1 ∧ k = 7)) ∨ (w7 = 0 ∧ ¬ (w_is n tp (mk_5 101 110 100 0 0) j ∧ x6 = -1 ∧ k = 7)))) (F1 : List Value) (j1 : Nat) (r1 : Int32) (F2 : List Value) (j2 : Nat) (r2 hv : Int32) (hhv : (hv = 1 ∧ (w5 = 1 ∨ w6 = 1 ∨ w7 = 1)) ∨ (hv = 0 ∧ w5 = 0 ∧ w6 = 0 ∧ w7 = 0)) (k3 : ((r1 = 1 ∧ ((1 : Int32) = 1 ∧ hv = 1) ∧ j1 = j + 1) ∨ (r1 = 0 ∧ ¬ ((1 : Int32) = 1 ∧ hv = 1) ∧ j1 = j))) (n2 : ms_ b n tp fs F2 j2 r2) (n3 : (r2 = 1 ∧ (r1 = 1 ∧ w_nu n tp 1000000000 j1) ∧ j2 = j1 + 1) ∨ (r2 = 0 ∧ ¬ (r1 = 1 ∧ w_nu n tp 1000000000 j1) ∧ j2 = j1)) (h1 : sv_h) (a1 : h1 (b + 220) = some (.inr (11, F2)))
    (a2 : ab_J G h1 (b + 237) 40 (vp_updL fr rr (if w5 = 0 then fr rr else (if wS n tp j1 = 3 then wV n tp j1 else 0)))) (a3 : ab_J G h1 (b + 238) 40 (vp_updL fv rr (if w6 = 0 then fv rr else (if wS n tp j1 = 3 then wV n tp j1 else 0)))) (a4 : ab_J G h1 (b + 239) 40 (vp_updL fe rr (if w7 = 0 then fe rr else (if wS n tp j1 = 3 then wV n tp j1 else 0)))) (v : Option Value) (z1 : Nat) (hv0 : v = none) (hz0 : z1 = z) (a5 : ∀ w, w ≠ b + 220 → w ≠ b + 237 → w ≠ b + 238 → w ≠ b + 239 → h1 w = h w) : v = none ∧ z1 = z ∧ (∃ (F1 : List Value) (fr1 fv1 fe1 : Nat → Int64) (j1 : Nat) (r1 : Int32), h1 (b + 220) = some (.inr (11, F1)) ∧ ab_J G h1 (b + 237) 40 fr1 ∧ ab_J G h1 (b + 238) 40 fv1 ∧ ab_J G h1 (b + 239) 40 fe1 ∧ (∀ i, i ≠ rr → fr1 i = fr i ∧ fv1 i = fv i ∧ fe1 i = fe i) ∧ ms_ b n tp fs F1 j1 r1 ∧ ((r1 = 1 ∧ ¬ (cd_w n tp k x4 x5 x6 j) = 0 ∧ w_nu n tp 1000000000 (j + 1) ∧ j1 = j + 2 ∧ fr1 rr = (cd_x (cd_w n tp k x4 x5 x6 j) 1 x4 (w_nv n tp (j + 1))).toInt64 ∧ fv1 rr = (cd_x (cd_w n tp k x4 x5 x6 j) 2 x5 (w_nv n tp (j + 1))).toInt64 ∧ fe1 rr = (cd_x (cd_w n tp k x4 x5 x6 j) 3 x6 (w_nv n tp (j + 1))).toInt64) ∨ (r1 = 0 ∧ (((cd_w n tp k x4 x5 x6 j) = 0 ∧ j1 = j) ∨ (¬ (cd_w n tp k x4 x5 x6 j) = 0 ∧ ¬ w_nu n tp 1000000000 (j + 1) ∧ j1 = j + 1))))) ∧ ∀ w, w ≠ b + 220 → w ≠ b + 237 → w ≠ b + 238 → w ≠ b + 239 → h1 w = h w := by
  refine ⟨hv0, hz0, ⟨F2, _, _, _, j2, r2, a1, a2, a3, a4, fun i hi => ⟨pk_uLn hi, pk_uLn hi, pk_uLn hi⟩, n2, ?_⟩, a5⟩
  rw [pk_uLs, pk_uLs, pk_uLs]
  have one : ¬ (1 : Int32) = 0 := by decide
  rcases hhv with ⟨e, hw⟩ | ⟨e, f5, f6, f7⟩
  · have hc : ¬ (cd_w n tp k x4 x5 x6 j) = 0 := by
      intro q
      obtain ⟨s5, s6, s7⟩ := cd_0.mp q
      rcases hw with y | y | y
      · exact s5 ((b5.resolve_right (fun s => one (y.symm.trans s.1))).2)
      · exact s6 ((b6.resolve_right (fun s => one (y.symm.trans s.1))).2)
      · exact s7 ((b7.resolve_right (fun s => one (y.symm.trans s.1))).2)
    rcases k3 with ⟨c1, c2, rfl⟩ | ⟨c1, c2, _⟩
    · rcases n3 with ⟨d1, ⟨_, d2⟩, d3⟩ | ⟨d1, d2, d3⟩
      · refine Or.inl ⟨d1, hc, d2, by omega, ?_, ?_, ?_⟩
        · rcases b5 with ⟨y, p⟩ | ⟨y, p⟩
          · rw [y, if_neg one, if_pos d2.1, cd_x, if_pos (cd_1.mpr p), w_nv64 d2.1]
          · rw [y, if_pos rfl, cd_x, if_neg (fun q => p (cd_1.mp q)), u4]
        · rcases b6 with ⟨y, p⟩ | ⟨y, p⟩
          · rw [y, if_neg one, if_pos d2.1, cd_x, if_pos (cd_2.mpr p), w_nv64 d2.1]
          · rw [y, if_pos rfl, cd_x, if_neg (fun q => p (cd_2.mp q)), u5]
        · rcases b7 with ⟨y, p⟩ | ⟨y, p⟩
          · rw [y, if_neg one, if_pos d2.1, cd_x, if_pos (cd_3.mpr p), w_nv64 d2.1]
          · rw [y, if_pos rfl, cd_x, if_neg (fun q => p (cd_3.mp q)), u6]
      · exact Or.inr ⟨d1, Or.inr ⟨hc, fun q => d2 ⟨c1, q⟩, d3⟩⟩
    · exact absurd ⟨rfl, e⟩ c2
  · have hc : (cd_w n tp k x4 x5 x6 j) = 0 := by
      refine cd_0.mpr ⟨?_, ?_, ?_⟩
      · exact (b5.resolve_left (fun s => one (s.1.symm.trans f5))).2
      · exact (b6.resolve_left (fun s => one (s.1.symm.trans f6))).2
      · exact (b7.resolve_left (fun s => one (s.1.symm.trans f7))).2
    rcases k3 with ⟨_, ⟨_, c2⟩, _⟩ | ⟨c1, c2, c3⟩
    · exact absurd (c2.symm.trans e) one
    · rcases n3 with ⟨_, ⟨d1, _⟩, _⟩ | ⟨d1, d2, d3⟩
      · exact absurd (d1.symm.trans c1) one
      · exact Or.inr ⟨d1, Or.inl ⟨hc, d3.trans c3⟩⟩
set_option maxHeartbeats 4000000 in
set_option maxRecDepth 100000 in
theorem t_c4 (G : sv_G) (h : sv_h) (z b n : Nat) (fs F : List Value) (f tp : Nat → Int32) (j : Nat) (ht2 : ab_I G h (b + 232) 600 f) (htp : ∀ i, i < n → f i = tp i) (hn : n ≤ 600) (hm : h (b + 220) = some (.inr (11, F))) (H : ms_ b n tp fs F j 1) (hok : ∀ i, i < n → tp i = 10 ∨ (32 ≤ tp i ∧ tp i ≤ 126)) (rr : Nat) (hrr : rr < 40) (fk : Nat → Int32) (fr fv fe : Nat → Int64) (hk0 : ab_I G h (b + 233) 40 fk) (hr0 : ab_J G h (b + 237) 40 fr) (hv0 : ab_J G h (b + 238) 40 fv) (he0 : ab_J G h (b + 239) 40 fe) (q1 : fs[19]? = some (.ref (b + 233))) (q2 : fs[23]? = some (.ref (b + 237))) (q3 : fs[24]? = some (.ref (b + 238))) (q4 : fs[25]? = some (.ref (b + 239))) (k x4 x5 x6 : Int32) (uk : fk rr = k) (u4 : fr rr = x4.toInt64) (u5 : fv rr = x5.toInt64) (u6 : fe rr = x6.toInt64) (v4 : x4 = -1 ∨ 0 ≤ x4) (v5 : x5 = -1 ∨ 0 ≤ x5) (v6 : x6 = -1 ∨ 0 ≤ x6) (w5 w6 w7 : Int32) (b5 : ((w5 = 1 ∧ (w_is n tp (mk_5 114 117 110 0 0) j ∧ x4 = -1 ∧ (k = 0 ∨ k = 1 ∨ k = 7 ∨ k = 9 ∨ k = 10))) ∨ (w5 = 0 ∧ ¬ (w_is n tp (mk_5 114 117 110 0 0) j ∧ x4 = -1 ∧ (k = 0 ∨ k = 1 ∨ k = 7 ∨ k = 9 ∨ k = 10))))) (b6 : ((w6 = 1 ∧ (w_is n tp (mk_5 118 111 108 116 0) j ∧ x5 = -1 ∧ (k = 7 ∨ k = 8))) ∨ (w6 = 0 ∧ ¬ (w_is n tp (mk_5 118 111 108 116 0) j ∧ x5 = -1 ∧ (k = 7 ∨ k = 8))))) (b7 : ((w7 = 1 ∧ (w_is n tp (mk_5 101 110 100 0 0) j ∧ x6 = -1 ∧ k = 7)) ∨ (w7 = 0 ∧ ¬ (w_is n tp (mk_5 101 110 100 0 0) j ∧ x6 = -1 ∧ k = 7)))) : V G mX13_condition (sv_MQ G mX13_condition (fun v h1 z1 => v = none ∧ z1 = z ∧ (∃ (F1 : List Value) (fr1 fv1 fe1 : Nat → Int64) (j1 : Nat) (r1 : Int32), h1 (b + 220) = some (.inr (11, F1)) ∧ ab_J G h1 (b + 237) 40 fr1 ∧ ab_J G h1 (b + 238) 40 fv1 ∧ ab_J G h1 (b + 239) 40 fe1 ∧ (∀ i, i ≠ rr → fr1 i = fr i ∧ fv1 i = fv i ∧ fe1 i = fe i) ∧ ms_ b n tp fs F1 j1 r1 ∧ ((r1 = 1 ∧ ¬ (cd_w n tp k x4 x5 x6 j) = 0 ∧ w_nu n tp 1000000000 (j + 1) ∧ j1 = j + 2 ∧ fr1 rr = (cd_x (cd_w n tp k x4 x5 x6 j) 1 x4 (w_nv n tp (j + 1))).toInt64 ∧ fv1 rr = (cd_x (cd_w n tp k x4 x5 x6 j) 2 x5 (w_nv n tp (j + 1))).toInt64 ∧ fe1 rr = (cd_x (cd_w n tp k x4 x5 x6 j) 3 x6 (w_nv n tp (j + 1))).toInt64) ∨ (r1 = 0 ∧ (((cd_w n tp k x4 x5 x6 j) = 0 ∧ j1 = j) ∨ (¬ (cd_w n tp k x4 x5 x6 j) = 0 ∧ ¬ w_nu n tp 1000000000 (j + 1) ∧ j1 = j + 1))))) ∧ ∀ w, w ≠ b + 220 → w ≠ b + 237 → w ≠ b + 238 → w ≠ b + 239 → h1 w = h w)) 160 [(7, .int w7), (6, .int w6), (5, .int w5), (3, .long (if wS n tp j = 2 then wV n tp j else 0)), (2, .int k), (0, .ref (b + 220)), (1, .int (nI rr))] [] h z 0 0 := by
  refine v_aload_n dX13_condition_160 rfl 5 rfl ?_
  refine v_iload dX13_condition_161 2 rfl ?_
  refine v_if_ne (tgt := 176) dX13_condition_163 (by decide) (fun c_163 => ?_) (fun c_163 => ?_)
  · refine v_iconst (v := 1) dX13_condition_176 (by decide) ?_
    refine v_goto (tgt := 181) dX13_condition_177 (by decide) ?_
    refine v_callVq (M' := mX13_take_) (n := 1) (As := [_]) (ci := 11) (r := (RX13, TX13, 71)) gX13_condition_X13_take_ rfl (by decide +kernel) ⟨(Nat.le_of_ble_eq_true rfl), (Nat.le_of_ble_eq_true rfl)⟩ rfl rfl dX13_condition_181 rfl ⟨(Nat.le_of_ble_eq_true rfl), (Nat.le_of_ble_eq_true rfl)⟩ (Nat.le_of_ble_eq_true rfl) (by first | with_reducible assumption) rfl (m_takeJ G h z b n fs F f tp j 1 ht2 htp hn hm H _ (Or.inr rfl) (by first | exact Or.inl rfl | exact Or.inr rfl)) (fun v h1 z1 hq => ?_)
    obtain ⟨rfl, rfl, ⟨F1, j1, r1, k1, k2, k3⟩, k4⟩ := hq
    refine v_aload_n dX13_condition_184 rfl 5 rfl ?_
    refine v_ldc2 (v := (1000000000)) (by decide +kernel) dX13_condition_185 ?_
    refine v_callVq (M' := mX13_number) (n := 1) (As := [_]) (ci := 11) (r := (RX13, TX13, 71)) gX13_condition_X13_number rfl (by decide +kernel) ⟨(Nat.le_of_ble_eq_true rfl), (Nat.le_of_ble_eq_true rfl)⟩ rfl rfl dX13_condition_188 rfl ⟨(Nat.le_of_ble_eq_true rfl), (Nat.le_of_ble_eq_true rfl)⟩ (Nat.le_of_ble_eq_true rfl) k1 rfl (m_numberJ G _ _ b n fs F1 f tp j1 r1 ((k4 _ (by omega)).trans ht2) htp hn k1 k2 hok 1000000000 (by rcases k3 with ⟨r, _⟩ | ⟨r, _⟩; exact Or.inr r; exact Or.inl r)) (fun v h1 z1 hq => ?_)
    obtain ⟨rfl, rfl, ⟨F2, j2, r2, n1, n2, n3⟩, n4⟩ := hq
    refine v_lstore (L' := [(8, _), (7, _), (6, _), (5, _), (3, _), (2, _), (0, _), (1, _)]) dX13_condition_191 (Nat.le_of_ble_eq_true rfl) rfl ?_
    refine v_sub (L' := [(8, _), (7, _), (6, _), (5, _), (3, _), (2, _), (0, _), (1, _)]) [0, 1, 2, 3, 4, 5, 6, 7] rfl ?_
    have hfr : ∀ w, w ≠ b + 220 → _ = h w := fun w q => (n4 w q).trans (k4 w q)
    refine t_cond5 G _ _ _ b rr hrr F2 fr fv fe _ n2.1 n1 ((n2.2.2.2.2.2.2.2 23 (by decide) (by decide) (by decide) (by decide)).trans q2) ((n2.2.2.2.2.2.2.2 24 (by decide) (by decide) (by decide) (by decide)).trans q3) ((n2.2.2.2.2.2.2.2 25 (by decide) (by decide) (by decide) (by decide)).trans q4) ((hfr _ (by omega)).trans hr0) ((hfr _ (by omega)).trans hv0) ((hfr _ (by omega)).trans he0) k w5 w6 w7 _ (fun h9 a1 a2 a3 a4 a5 => ?_)
    exact t_c4e G h _ b n fs F f tp j ht2 htp hn hm H hok rr hrr fk fr fv fe hk0 hr0 hv0 he0 q1 q2 q3 q4 k x4 x5 x6 uk u4 u5 u6 v4 v5 v6 w5 w6 w7 b5 b6 b7 F1 j1 r1 F2 j2 r2 _ (by first | exact Or.inl ⟨rfl, Or.inl (b5.resolve_right (fun s => c_163 s.1)).1⟩ | exact Or.inl ⟨rfl, Or.inr (Or.inl (b6.resolve_right (fun s => c_168 s.1)).1)⟩ | exact Or.inl ⟨rfl, Or.inr (Or.inr (b7.resolve_right (fun s => c_173 s.1)).1)⟩ | exact Or.inr ⟨rfl, c_163, c_168, c_173⟩) k3 n2 n3 h9 a1 a2 a3 a4 none _ rfl rfl (fun w s1 s2 s3 s4 => (a5 w s2 s3 s4).trans (hfr w s1))
  · refine v_iload dX13_condition_166 1 rfl ?_
    refine v_if_ne (tgt := 176) dX13_condition_168 (by decide) (fun c_168 => ?_) (fun c_168 => ?_)
    · refine v_iconst (v := 1) dX13_condition_176 (by decide) ?_
      refine v_goto (tgt := 181) dX13_condition_177 (by decide) ?_
      refine v_callVq (M' := mX13_take_) (n := 1) (As := [_]) (ci := 11) (r := (RX13, TX13, 71)) gX13_condition_X13_take_ rfl (by decide +kernel) ⟨(Nat.le_of_ble_eq_true rfl), (Nat.le_of_ble_eq_true rfl)⟩ rfl rfl dX13_condition_181 rfl ⟨(Nat.le_of_ble_eq_true rfl), (Nat.le_of_ble_eq_true rfl)⟩ (Nat.le_of_ble_eq_true rfl) (by first | with_reducible assumption) rfl (m_takeJ G h z b n fs F f tp j 1 ht2 htp hn hm H _ (Or.inr rfl) (by first | exact Or.inl rfl | exact Or.inr rfl)) (fun v h1 z1 hq => ?_)
      obtain ⟨rfl, rfl, ⟨F1, j1, r1, k1, k2, k3⟩, k4⟩ := hq
      refine v_aload_n dX13_condition_184 rfl 5 rfl ?_
      refine v_ldc2 (v := (1000000000)) (by decide +kernel) dX13_condition_185 ?_
      refine v_callVq (M' := mX13_number) (n := 1) (As := [_]) (ci := 11) (r := (RX13, TX13, 71)) gX13_condition_X13_number rfl (by decide +kernel) ⟨(Nat.le_of_ble_eq_true rfl), (Nat.le_of_ble_eq_true rfl)⟩ rfl rfl dX13_condition_188 rfl ⟨(Nat.le_of_ble_eq_true rfl), (Nat.le_of_ble_eq_true rfl)⟩ (Nat.le_of_ble_eq_true rfl) k1 rfl (m_numberJ G _ _ b n fs F1 f tp j1 r1 ((k4 _ (by omega)).trans ht2) htp hn k1 k2 hok 1000000000 (by rcases k3 with ⟨r, _⟩ | ⟨r, _⟩; exact Or.inr r; exact Or.inl r)) (fun v h1 z1 hq => ?_)
      obtain ⟨rfl, rfl, ⟨F2, j2, r2, n1, n2, n3⟩, n4⟩ := hq
      refine v_lstore (L' := [(8, _), (7, _), (6, _), (5, _), (3, _), (2, _), (0, _), (1, _)]) dX13_condition_191 (Nat.le_of_ble_eq_true rfl) rfl ?_
      refine v_sub (L' := [(8, _), (7, _), (6, _), (5, _), (3, _), (2, _), (0, _), (1, _)]) [0, 1, 2, 3, 4, 5, 6, 7] rfl ?_
      have hfr : ∀ w, w ≠ b + 220 → _ = h w := fun w q => (n4 w q).trans (k4 w q)
      refine t_cond5 G _ _ _ b rr hrr F2 fr fv fe _ n2.1 n1 ((n2.2.2.2.2.2.2.2 23 (by decide) (by decide) (by decide) (by decide)).trans q2) ((n2.2.2.2.2.2.2.2 24 (by decide) (by decide) (by decide) (by decide)).trans q3) ((n2.2.2.2.2.2.2.2 25 (by decide) (by decide) (by decide) (by decide)).trans q4) ((hfr _ (by omega)).trans hr0) ((hfr _ (by omega)).trans hv0) ((hfr _ (by omega)).trans he0) k w5 w6 w7 _ (fun h9 a1 a2 a3 a4 a5 => ?_)
      exact t_c4e G h _ b n fs F f tp j ht2 htp hn hm H hok rr hrr fk fr fv fe hk0 hr0 hv0 he0 q1 q2 q3 q4 k x4 x5 x6 uk u4 u5 u6 v4 v5 v6 w5 w6 w7 b5 b6 b7 F1 j1 r1 F2 j2 r2 _ (by first | exact Or.inl ⟨rfl, Or.inl (b5.resolve_right (fun s => c_163 s.1)).1⟩ | exact Or.inl ⟨rfl, Or.inr (Or.inl (b6.resolve_right (fun s => c_168 s.1)).1)⟩ | exact Or.inl ⟨rfl, Or.inr (Or.inr (b7.resolve_right (fun s => c_173 s.1)).1)⟩ | exact Or.inr ⟨rfl, c_163, c_168, c_173⟩) k3 n2 n3 h9 a1 a2 a3 a4 none _ rfl rfl (fun w s1 s2 s3 s4 => (a5 w s2 s3 s4).trans (hfr w s1))
    · refine v_iload dX13_condition_171 0 rfl ?_
      refine v_if_eq (tgt := 180) dX13_condition_173 (by decide) (fun c_173 => ?_) (fun c_173 => ?_)
      · refine v_iconst (v := 0) dX13_condition_180 (by decide) ?_
        refine v_callVq (M' := mX13_take_) (n := 1) (As := [_]) (ci := 11) (r := (RX13, TX13, 71)) gX13_condition_X13_take_ rfl (by decide +kernel) ⟨(Nat.le_of_ble_eq_true rfl), (Nat.le_of_ble_eq_true rfl)⟩ rfl rfl dX13_condition_181 rfl ⟨(Nat.le_of_ble_eq_true rfl), (Nat.le_of_ble_eq_true rfl)⟩ (Nat.le_of_ble_eq_true rfl) (by first | with_reducible assumption) rfl (m_takeJ G h z b n fs F f tp j 1 ht2 htp hn hm H _ (Or.inr rfl) (by first | exact Or.inl rfl | exact Or.inr rfl)) (fun v h1 z1 hq => ?_)
        obtain ⟨rfl, rfl, ⟨F1, j1, r1, k1, k2, k3⟩, k4⟩ := hq
        refine v_aload_n dX13_condition_184 rfl 5 rfl ?_
        refine v_ldc2 (v := (1000000000)) (by decide +kernel) dX13_condition_185 ?_
        refine v_callVq (M' := mX13_number) (n := 1) (As := [_]) (ci := 11) (r := (RX13, TX13, 71)) gX13_condition_X13_number rfl (by decide +kernel) ⟨(Nat.le_of_ble_eq_true rfl), (Nat.le_of_ble_eq_true rfl)⟩ rfl rfl dX13_condition_188 rfl ⟨(Nat.le_of_ble_eq_true rfl), (Nat.le_of_ble_eq_true rfl)⟩ (Nat.le_of_ble_eq_true rfl) k1 rfl (m_numberJ G _ _ b n fs F1 f tp j1 r1 ((k4 _ (by omega)).trans ht2) htp hn k1 k2 hok 1000000000 (by rcases k3 with ⟨r, _⟩ | ⟨r, _⟩; exact Or.inr r; exact Or.inl r)) (fun v h1 z1 hq => ?_)
        obtain ⟨rfl, rfl, ⟨F2, j2, r2, n1, n2, n3⟩, n4⟩ := hq
        refine v_lstore (L' := [(8, _), (7, _), (6, _), (5, _), (3, _), (2, _), (0, _), (1, _)]) dX13_condition_191 (Nat.le_of_ble_eq_true rfl) rfl ?_
        refine v_sub (L' := [(8, _), (7, _), (6, _), (5, _), (3, _), (2, _), (0, _), (1, _)]) [0, 1, 2, 3, 4, 5, 6, 7] rfl ?_
        have hfr : ∀ w, w ≠ b + 220 → _ = h w := fun w q => (n4 w q).trans (k4 w q)
        refine t_cond5 G _ _ _ b rr hrr F2 fr fv fe _ n2.1 n1 ((n2.2.2.2.2.2.2.2 23 (by decide) (by decide) (by decide) (by decide)).trans q2) ((n2.2.2.2.2.2.2.2 24 (by decide) (by decide) (by decide) (by decide)).trans q3) ((n2.2.2.2.2.2.2.2 25 (by decide) (by decide) (by decide) (by decide)).trans q4) ((hfr _ (by omega)).trans hr0) ((hfr _ (by omega)).trans hv0) ((hfr _ (by omega)).trans he0) k w5 w6 w7 _ (fun h9 a1 a2 a3 a4 a5 => ?_)
        exact t_c4e G h _ b n fs F f tp j ht2 htp hn hm H hok rr hrr fk fr fv fe hk0 hr0 hv0 he0 q1 q2 q3 q4 k x4 x5 x6 uk u4 u5 u6 v4 v5 v6 w5 w6 w7 b5 b6 b7 F1 j1 r1 F2 j2 r2 _ (by first | exact Or.inl ⟨rfl, Or.inl (b5.resolve_right (fun s => c_163 s.1)).1⟩ | exact Or.inl ⟨rfl, Or.inr (Or.inl (b6.resolve_right (fun s => c_168 s.1)).1)⟩ | exact Or.inl ⟨rfl, Or.inr (Or.inr (b7.resolve_right (fun s => c_173 s.1)).1)⟩ | exact Or.inr ⟨rfl, c_163, c_168, c_173⟩) k3 n2 n3 h9 a1 a2 a3 a4 none _ rfl rfl (fun w s1 s2 s3 s4 => (a5 w s2 s3 s4).trans (hfr w s1))
      · refine v_iconst (v := 1) dX13_condition_176 (by decide) ?_
        refine v_goto (tgt := 181) dX13_condition_177 (by decide) ?_
        refine v_callVq (M' := mX13_take_) (n := 1) (As := [_]) (ci := 11) (r := (RX13, TX13, 71)) gX13_condition_X13_take_ rfl (by decide +kernel) ⟨(Nat.le_of_ble_eq_true rfl), (Nat.le_of_ble_eq_true rfl)⟩ rfl rfl dX13_condition_181 rfl ⟨(Nat.le_of_ble_eq_true rfl), (Nat.le_of_ble_eq_true rfl)⟩ (Nat.le_of_ble_eq_true rfl) (by first | with_reducible assumption) rfl (m_takeJ G h z b n fs F f tp j 1 ht2 htp hn hm H _ (Or.inr rfl) (by first | exact Or.inl rfl | exact Or.inr rfl)) (fun v h1 z1 hq => ?_)
        obtain ⟨rfl, rfl, ⟨F1, j1, r1, k1, k2, k3⟩, k4⟩ := hq
        refine v_aload_n dX13_condition_184 rfl 5 rfl ?_
        refine v_ldc2 (v := (1000000000)) (by decide +kernel) dX13_condition_185 ?_
        refine v_callVq (M' := mX13_number) (n := 1) (As := [_]) (ci := 11) (r := (RX13, TX13, 71)) gX13_condition_X13_number rfl (by decide +kernel) ⟨(Nat.le_of_ble_eq_true rfl), (Nat.le_of_ble_eq_true rfl)⟩ rfl rfl dX13_condition_188 rfl ⟨(Nat.le_of_ble_eq_true rfl), (Nat.le_of_ble_eq_true rfl)⟩ (Nat.le_of_ble_eq_true rfl) k1 rfl (m_numberJ G _ _ b n fs F1 f tp j1 r1 ((k4 _ (by omega)).trans ht2) htp hn k1 k2 hok 1000000000 (by rcases k3 with ⟨r, _⟩ | ⟨r, _⟩; exact Or.inr r; exact Or.inl r)) (fun v h1 z1 hq => ?_)
        obtain ⟨rfl, rfl, ⟨F2, j2, r2, n1, n2, n3⟩, n4⟩ := hq
        refine v_lstore (L' := [(8, _), (7, _), (6, _), (5, _), (3, _), (2, _), (0, _), (1, _)]) dX13_condition_191 (Nat.le_of_ble_eq_true rfl) rfl ?_
        refine v_sub (L' := [(8, _), (7, _), (6, _), (5, _), (3, _), (2, _), (0, _), (1, _)]) [0, 1, 2, 3, 4, 5, 6, 7] rfl ?_
        have hfr : ∀ w, w ≠ b + 220 → _ = h w := fun w q => (n4 w q).trans (k4 w q)
        refine t_cond5 G _ _ _ b rr hrr F2 fr fv fe _ n2.1 n1 ((n2.2.2.2.2.2.2.2 23 (by decide) (by decide) (by decide) (by decide)).trans q2) ((n2.2.2.2.2.2.2.2 24 (by decide) (by decide) (by decide) (by decide)).trans q3) ((n2.2.2.2.2.2.2.2 25 (by decide) (by decide) (by decide) (by decide)).trans q4) ((hfr _ (by omega)).trans hr0) ((hfr _ (by omega)).trans hv0) ((hfr _ (by omega)).trans he0) k w5 w6 w7 _ (fun h9 a1 a2 a3 a4 a5 => ?_)
        exact t_c4e G h _ b n fs F f tp j ht2 htp hn hm H hok rr hrr fk fr fv fe hk0 hr0 hv0 he0 q1 q2 q3 q4 k x4 x5 x6 uk u4 u5 u6 v4 v5 v6 w5 w6 w7 b5 b6 b7 F1 j1 r1 F2 j2 r2 _ (by first | exact Or.inl ⟨rfl, Or.inl (b5.resolve_right (fun s => c_163 s.1)).1⟩ | exact Or.inl ⟨rfl, Or.inr (Or.inl (b6.resolve_right (fun s => c_168 s.1)).1)⟩ | exact Or.inl ⟨rfl, Or.inr (Or.inr (b7.resolve_right (fun s => c_173 s.1)).1)⟩ | exact Or.inr ⟨rfl, c_163, c_168, c_173⟩) k3 n2 n3 h9 a1 a2 a3 a4 none _ rfl rfl (fun w s1 s2 s3 s4 => (a5 w s2 s3 s4).trans (hfr w s1))

theorem cd_lt {x : Int32} (h : x = -1 ∨ 0 ≤ x) : x.toInt64 < 0 ↔ x = -1 := by
  rw [Int64.lt_iff_toInt_lt, Int32.toInt_toInt64, show (0 : Int64).toInt = 0 by decide]
  rcases h with h | h
  · rw [h]; exact ⟨fun _ => rfl, fun _ => by decide⟩
  · rw [Int32.le_iff_toInt_le, show (0 : Int32).toInt = 0 by decide] at h
    exact ⟨fun q => absurd q (by omega), fun q => by rw [q] at h; exact absurd h (by decide)⟩
set_option maxHeartbeats 4000000 in
set_option maxRecDepth 100000 in
theorem t_c3 (G : sv_G) (h : sv_h) (z b n : Nat) (fs F : List Value) (f tp : Nat → Int32) (j : Nat) (ht2 : ab_I G h (b + 232) 600 f) (htp : ∀ i, i < n → f i = tp i) (hn : n ≤ 600) (hm : h (b + 220) = some (.inr (11, F))) (H : ms_ b n tp fs F j 1) (hok : ∀ i, i < n → tp i = 10 ∨ (32 ≤ tp i ∧ tp i ≤ 126)) (rr : Nat) (hrr : rr < 40) (fk : Nat → Int32) (fr fv fe : Nat → Int64) (hk0 : ab_I G h (b + 233) 40 fk) (hr0 : ab_J G h (b + 237) 40 fr) (hv0 : ab_J G h (b + 238) 40 fv) (he0 : ab_J G h (b + 239) 40 fe) (q1 : fs[19]? = some (.ref (b + 233))) (q2 : fs[23]? = some (.ref (b + 237))) (q3 : fs[24]? = some (.ref (b + 238))) (q4 : fs[25]? = some (.ref (b + 239))) (k x4 x5 x6 : Int32) (uk : fk rr = k) (u4 : fr rr = x4.toInt64) (u5 : fv rr = x5.toInt64) (u6 : fe rr = x6.toInt64) (v4 : x4 = -1 ∨ 0 ≤ x4) (v5 : x5 = -1 ∨ 0 ≤ x5) (v6 : x6 = -1 ∨ 0 ≤ x6) (w5 w6 : Int32) (b5 : ((w5 = 1 ∧ (w_is n tp (mk_5 114 117 110 0 0) j ∧ x4 = -1 ∧ (k = 0 ∨ k = 1 ∨ k = 7 ∨ k = 9 ∨ k = 10))) ∨ (w5 = 0 ∧ ¬ (w_is n tp (mk_5 114 117 110 0 0) j ∧ x4 = -1 ∧ (k = 0 ∨ k = 1 ∨ k = 7 ∨ k = 9 ∨ k = 10))))) (b6 : ((w6 = 1 ∧ (w_is n tp (mk_5 118 111 108 116 0) j ∧ x5 = -1 ∧ (k = 7 ∨ k = 8))) ∨ (w6 = 0 ∧ ¬ (w_is n tp (mk_5 118 111 108 116 0) j ∧ x5 = -1 ∧ (k = 7 ∨ k = 8))))) : V G mX13_condition (sv_MQ G mX13_condition (fun v h1 z1 => v = none ∧ z1 = z ∧ (∃ (F1 : List Value) (fr1 fv1 fe1 : Nat → Int64) (j1 : Nat) (r1 : Int32), h1 (b + 220) = some (.inr (11, F1)) ∧ ab_J G h1 (b + 237) 40 fr1 ∧ ab_J G h1 (b + 238) 40 fv1 ∧ ab_J G h1 (b + 239) 40 fe1 ∧ (∀ i, i ≠ rr → fr1 i = fr i ∧ fv1 i = fv i ∧ fe1 i = fe i) ∧ ms_ b n tp fs F1 j1 r1 ∧ ((r1 = 1 ∧ ¬ (cd_w n tp k x4 x5 x6 j) = 0 ∧ w_nu n tp 1000000000 (j + 1) ∧ j1 = j + 2 ∧ fr1 rr = (cd_x (cd_w n tp k x4 x5 x6 j) 1 x4 (w_nv n tp (j + 1))).toInt64 ∧ fv1 rr = (cd_x (cd_w n tp k x4 x5 x6 j) 2 x5 (w_nv n tp (j + 1))).toInt64 ∧ fe1 rr = (cd_x (cd_w n tp k x4 x5 x6 j) 3 x6 (w_nv n tp (j + 1))).toInt64) ∨ (r1 = 0 ∧ (((cd_w n tp k x4 x5 x6 j) = 0 ∧ j1 = j) ∨ (¬ (cd_w n tp k x4 x5 x6 j) = 0 ∧ ¬ w_nu n tp 1000000000 (j + 1) ∧ j1 = j + 1))))) ∧ ∀ w, w ≠ b + 220 → w ≠ b + 237 → w ≠ b + 238 → w ≠ b + 239 → h1 w = h w)) 120 [(6, .int w6), (5, .int w5), (3, .long (if wS n tp j = 2 then wV n tp j else 0)), (2, .int k), (0, .ref (b + 220)), (1, .int (nI rr))] [] h z 0 0 := by
  obtain ⟨g0, g1, g2, g3, g4, g5, g6, g7⟩ := id H
  have hlen := g0
  have f_kind := (g7 19 (by decide) (by decide) (by decide) (by decide)).trans q1
  have f_run := (g7 23 (by decide) (by decide) (by decide) (by decide)).trans q2
  have f_volt := (g7 24 (by decide) (by decide) (by decide) (by decide)).trans q3
  have f_end := (g7 25 (by decide) (by decide) (by decide) (by decide)).trans q4
  refine v_lload_n dX13_condition_120 rfl 2 rfl ?_
  refine v_bipush (v := 101) dX13_condition_121 (by decide) ?_
  refine v_bipush (v := 110) dX13_condition_123 (by decide) ?_
  refine v_bipush (v := 100) dX13_condition_125 (by decide) ?_
  refine v_iconst (v := 0) dX13_condition_127 (by decide) ?_
  refine v_iconst (v := 0) dX13_condition_128 (by decide) ?_
  refine v_callSq (M' := mX13_word) (n := 5) (As := [_, _, _, _, _]) ggX13_condition_X13_word (by decide +kernel) (by decide +kernel) (by decide +kernel) rfl (by decide +kernel) ⟨(Nat.le_of_ble_eq_true rfl), (Nat.le_of_ble_eq_true rfl)⟩ dX13_condition_129 rfl ⟨(Nat.le_of_ble_eq_true rfl), (Nat.le_of_ble_eq_true rfl)⟩ (Nat.le_of_ble_eq_true rfl) rfl (m_word G _ _ _ _ _ _ _) (fun v h1 z1 hq => v_pq hq ?_)
  refine v_lcmp_ne (tgt := 157) dX13_condition_132 dX13_condition_133 (by decide) (fun c_133 => ?_) (fun c_133 => ?_)
  · refine v_iconst (v := 0) dX13_condition_157 (by decide) ?_
    refine v_istore (L' := [(7, _), (6, _), (5, _), (3, _), (2, _), (0, _), (1, _)]) dX13_condition_158 (Nat.le_of_ble_eq_true rfl) rfl ?_
    refine v_sub (L' := [(7, _), (6, _), (5, _), (3, _), (2, _), (0, _), (1, _)]) [0, 1, 2, 3, 4, 5, 6] rfl ?_
    refine t_c4 G h z b n fs F f tp j ht2 htp hn hm H hok rr hrr fk fr fv fe hk0 hr0 hv0 he0 q1 q2 q3 q4 k x4 x5 x6 uk u4 u5 u6 v4 v5 v6 w5 w6 _ b5 b6 ?_
    first
    | exact Or.inl ⟨rfl, (w_nm (by decide)).mp c_133, ((cd_lt v6).mp (by rw [← u6]; exact Int64.not_le.mp c_144)), c_150⟩
    | exact Or.inr ⟨rfl, fun s => c_150 s.2.2⟩
    | exact Or.inr ⟨rfl, (fun s => absurd ((cd_lt v6).mpr s.2.1) (by rw [← u6]; exact Int64.not_lt.mpr c_144))⟩
    | exact Or.inr ⟨rfl, fun s => c_133 ((w_nm (by decide)).mpr s.1)⟩
  · refine v_aload_n dX13_condition_136 rfl 4 rfl ?_
    refine v_getf 25 (ci := 11) (C := RX13) (T := TX13) (N := 71) rfl iwX13_condition_X13 (Nat.le_of_ble_eq_true rfl) (by decide +kernel) dX13_condition_137 (by first | with_reducible assumption) (by repeat (first | with_reducible assumption | (with_reducible refine (sv_ls (by first | omega | (simp only [List.length_set]; omega))).trans ?_; exact rfl) | with_reducible refine (List.getElem?_set_ne (by decide)).trans ?_)) ?_
    refine v_iload_n dX13_condition_140 rfl 5 rfl ?_
    refine v_laldS (v := fe rr) dX13_condition_141 (by first | with_reducible assumption) (vp_in_nI hrr (by omega)) (by rw [nI_clamp (by omega)]) ?_
    refine v_lconst (v := 0) dX13_condition_142 (by decide) ?_
    refine v_lcmp_ge (tgt := 157) dX13_condition_143 dX13_condition_144 (by decide) (fun c_144 => ?_) (fun c_144 => ?_)
    · refine v_iconst (v := 0) dX13_condition_157 (by decide) ?_
      refine v_istore (L' := [(7, _), (6, _), (5, _), (3, _), (2, _), (0, _), (1, _)]) dX13_condition_158 (Nat.le_of_ble_eq_true rfl) rfl ?_
      refine v_sub (L' := [(7, _), (6, _), (5, _), (3, _), (2, _), (0, _), (1, _)]) [0, 1, 2, 3, 4, 5, 6] rfl ?_
      refine t_c4 G h z b n fs F f tp j ht2 htp hn hm H hok rr hrr fk fr fv fe hk0 hr0 hv0 he0 q1 q2 q3 q4 k x4 x5 x6 uk u4 u5 u6 v4 v5 v6 w5 w6 _ b5 b6 ?_
      first
      | exact Or.inl ⟨rfl, (w_nm (by decide)).mp c_133, ((cd_lt v6).mp (by rw [← u6]; exact Int64.not_le.mp c_144)), c_150⟩
      | exact Or.inr ⟨rfl, fun s => c_150 s.2.2⟩
      | exact Or.inr ⟨rfl, (fun s => absurd ((cd_lt v6).mpr s.2.1) (by rw [← u6]; exact Int64.not_lt.mpr c_144))⟩
      | exact Or.inr ⟨rfl, fun s => c_133 ((w_nm (by decide)).mpr s.1)⟩
    · refine v_iload_n dX13_condition_147 rfl 3 rfl ?_
      refine v_bipush (v := 7) dX13_condition_148 (by decide) ?_
      refine v_icmp_ne (tgt := 157) dX13_condition_150 (by decide) (fun c_150 => ?_) (fun c_150 => ?_)
      · refine v_iconst (v := 0) dX13_condition_157 (by decide) ?_
        refine v_istore (L' := [(7, _), (6, _), (5, _), (3, _), (2, _), (0, _), (1, _)]) dX13_condition_158 (Nat.le_of_ble_eq_true rfl) rfl ?_
        refine v_sub (L' := [(7, _), (6, _), (5, _), (3, _), (2, _), (0, _), (1, _)]) [0, 1, 2, 3, 4, 5, 6] rfl ?_
        refine t_c4 G h z b n fs F f tp j ht2 htp hn hm H hok rr hrr fk fr fv fe hk0 hr0 hv0 he0 q1 q2 q3 q4 k x4 x5 x6 uk u4 u5 u6 v4 v5 v6 w5 w6 _ b5 b6 ?_
        first
        | exact Or.inl ⟨rfl, (w_nm (by decide)).mp c_133, ((cd_lt v6).mp (by rw [← u6]; exact Int64.not_le.mp c_144)), c_150⟩
        | exact Or.inr ⟨rfl, fun s => c_150 s.2.2⟩
        | exact Or.inr ⟨rfl, (fun s => absurd ((cd_lt v6).mpr s.2.1) (by rw [← u6]; exact Int64.not_lt.mpr c_144))⟩
        | exact Or.inr ⟨rfl, fun s => c_133 ((w_nm (by decide)).mpr s.1)⟩
      · refine v_iconst (v := 1) dX13_condition_153 (by decide) ?_
        refine v_goto (tgt := 158) dX13_condition_154 (by decide) ?_
        refine v_istore (L' := [(7, _), (6, _), (5, _), (3, _), (2, _), (0, _), (1, _)]) dX13_condition_158 (Nat.le_of_ble_eq_true rfl) rfl ?_
        refine v_sub (L' := [(7, _), (6, _), (5, _), (3, _), (2, _), (0, _), (1, _)]) [0, 1, 2, 3, 4, 5, 6] rfl ?_
        refine t_c4 G h z b n fs F f tp j ht2 htp hn hm H hok rr hrr fk fr fv fe hk0 hr0 hv0 he0 q1 q2 q3 q4 k x4 x5 x6 uk u4 u5 u6 v4 v5 v6 w5 w6 _ b5 b6 ?_
        first
        | exact Or.inl ⟨rfl, (w_nm (by decide)).mp c_133, ((cd_lt v6).mp (by rw [← u6]; exact Int64.not_le.mp c_144)), c_150⟩
        | exact Or.inr ⟨rfl, fun s => c_150 s.2.2⟩
        | exact Or.inr ⟨rfl, (fun s => absurd ((cd_lt v6).mpr s.2.1) (by rw [← u6]; exact Int64.not_lt.mpr c_144))⟩
        | exact Or.inr ⟨rfl, fun s => c_133 ((w_nm (by decide)).mpr s.1)⟩

set_option maxHeartbeats 4000000 in
set_option maxRecDepth 100000 in
theorem t_c2 (G : sv_G) (h : sv_h) (z b n : Nat) (fs F : List Value) (f tp : Nat → Int32) (j : Nat) (ht2 : ab_I G h (b + 232) 600 f) (htp : ∀ i, i < n → f i = tp i) (hn : n ≤ 600) (hm : h (b + 220) = some (.inr (11, F))) (H : ms_ b n tp fs F j 1) (hok : ∀ i, i < n → tp i = 10 ∨ (32 ≤ tp i ∧ tp i ≤ 126)) (rr : Nat) (hrr : rr < 40) (fk : Nat → Int32) (fr fv fe : Nat → Int64) (hk0 : ab_I G h (b + 233) 40 fk) (hr0 : ab_J G h (b + 237) 40 fr) (hv0 : ab_J G h (b + 238) 40 fv) (he0 : ab_J G h (b + 239) 40 fe) (q1 : fs[19]? = some (.ref (b + 233))) (q2 : fs[23]? = some (.ref (b + 237))) (q3 : fs[24]? = some (.ref (b + 238))) (q4 : fs[25]? = some (.ref (b + 239))) (k x4 x5 x6 : Int32) (uk : fk rr = k) (u4 : fr rr = x4.toInt64) (u5 : fv rr = x5.toInt64) (u6 : fe rr = x6.toInt64) (v4 : x4 = -1 ∨ 0 ≤ x4) (v5 : x5 = -1 ∨ 0 ≤ x5) (v6 : x6 = -1 ∨ 0 ≤ x6) (w5 : Int32) (b5 : ((w5 = 1 ∧ (w_is n tp (mk_5 114 117 110 0 0) j ∧ x4 = -1 ∧ (k = 0 ∨ k = 1 ∨ k = 7 ∨ k = 9 ∨ k = 10))) ∨ (w5 = 0 ∧ ¬ (w_is n tp (mk_5 114 117 110 0 0) j ∧ x4 = -1 ∧ (k = 0 ∨ k = 1 ∨ k = 7 ∨ k = 9 ∨ k = 10))))) : V G mX13_condition (sv_MQ G mX13_condition (fun v h1 z1 => v = none ∧ z1 = z ∧ (∃ (F1 : List Value) (fr1 fv1 fe1 : Nat → Int64) (j1 : Nat) (r1 : Int32), h1 (b + 220) = some (.inr (11, F1)) ∧ ab_J G h1 (b + 237) 40 fr1 ∧ ab_J G h1 (b + 238) 40 fv1 ∧ ab_J G h1 (b + 239) 40 fe1 ∧ (∀ i, i ≠ rr → fr1 i = fr i ∧ fv1 i = fv i ∧ fe1 i = fe i) ∧ ms_ b n tp fs F1 j1 r1 ∧ ((r1 = 1 ∧ ¬ (cd_w n tp k x4 x5 x6 j) = 0 ∧ w_nu n tp 1000000000 (j + 1) ∧ j1 = j + 2 ∧ fr1 rr = (cd_x (cd_w n tp k x4 x5 x6 j) 1 x4 (w_nv n tp (j + 1))).toInt64 ∧ fv1 rr = (cd_x (cd_w n tp k x4 x5 x6 j) 2 x5 (w_nv n tp (j + 1))).toInt64 ∧ fe1 rr = (cd_x (cd_w n tp k x4 x5 x6 j) 3 x6 (w_nv n tp (j + 1))).toInt64) ∨ (r1 = 0 ∧ (((cd_w n tp k x4 x5 x6 j) = 0 ∧ j1 = j) ∨ (¬ (cd_w n tp k x4 x5 x6 j) = 0 ∧ ¬ w_nu n tp 1000000000 (j + 1) ∧ j1 = j + 1))))) ∧ ∀ w, w ≠ b + 220 → w ≠ b + 237 → w ≠ b + 238 → w ≠ b + 239 → h1 w = h w)) 73 [(5, .int w5), (3, .long (if wS n tp j = 2 then wV n tp j else 0)), (2, .int k), (0, .ref (b + 220)), (1, .int (nI rr))] [] h z 0 0 := by
  obtain ⟨g0, g1, g2, g3, g4, g5, g6, g7⟩ := id H
  have hlen := g0
  have f_kind := (g7 19 (by decide) (by decide) (by decide) (by decide)).trans q1
  have f_run := (g7 23 (by decide) (by decide) (by decide) (by decide)).trans q2
  have f_volt := (g7 24 (by decide) (by decide) (by decide) (by decide)).trans q3
  have f_end := (g7 25 (by decide) (by decide) (by decide) (by decide)).trans q4
  refine v_lload_n dX13_condition_73 rfl 1 rfl ?_
  refine v_bipush (v := 118) dX13_condition_74 (by decide) ?_
  refine v_bipush (v := 111) dX13_condition_76 (by decide) ?_
  refine v_bipush (v := 108) dX13_condition_78 (by decide) ?_
  refine v_bipush (v := 116) dX13_condition_80 (by decide) ?_
  refine v_iconst (v := 0) dX13_condition_82 (by decide) ?_
  refine v_callSq (M' := mX13_word) (n := 5) (As := [_, _, _, _, _]) ggX13_condition_X13_word (by decide +kernel) (by decide +kernel) (by decide +kernel) rfl (by decide +kernel) ⟨(Nat.le_of_ble_eq_true rfl), (Nat.le_of_ble_eq_true rfl)⟩ dX13_condition_83 rfl ⟨(Nat.le_of_ble_eq_true rfl), (Nat.le_of_ble_eq_true rfl)⟩ (Nat.le_of_ble_eq_true rfl) rfl (m_word G _ _ _ _ _ _ _) (fun v h1 z1 hq => v_pq hq ?_)
  refine v_lcmp_ne (tgt := 117) dX13_condition_86 dX13_condition_87 (by decide) (fun c_87 => ?_) (fun c_87 => ?_)
  · refine v_iconst (v := 0) dX13_condition_117 (by decide) ?_
    refine v_istore (L' := [(6, _), (5, _), (3, _), (2, _), (0, _), (1, _)]) dX13_condition_118 (Nat.le_of_ble_eq_true rfl) rfl ?_
    refine v_sub (L' := [(6, _), (5, _), (3, _), (2, _), (0, _), (1, _)]) [0, 1, 2, 3, 4, 5] rfl ?_
    refine t_c3 G h z b n fs F f tp j ht2 htp hn hm H hok rr hrr fk fr fv fe hk0 hr0 hv0 he0 q1 q2 q3 q4 k x4 x5 x6 uk u4 u5 u6 v4 v5 v6 w5 _ b5 ?_
    first
    | exact Or.inl ⟨rfl, (w_nm (by decide)).mp c_87, ((cd_lt v5).mp (by rw [← u5]; exact Int64.not_le.mp c_98)), Or.inl c_104⟩
    | exact Or.inl ⟨rfl, (w_nm (by decide)).mp c_87, ((cd_lt v5).mp (by rw [← u5]; exact Int64.not_le.mp c_98)), Or.inr c_110⟩
    | exact Or.inr ⟨rfl, fun s => s.2.2.elim c_104 c_110⟩
    | exact Or.inr ⟨rfl, (fun s => absurd ((cd_lt v5).mpr s.2.1) (by rw [← u5]; exact Int64.not_lt.mpr c_98))⟩
    | exact Or.inr ⟨rfl, fun s => c_87 ((w_nm (by decide)).mpr s.1)⟩
  · refine v_aload_n dX13_condition_90 rfl 3 rfl ?_
    refine v_getf 24 (ci := 11) (C := RX13) (T := TX13) (N := 71) rfl iwX13_condition_X13 (Nat.le_of_ble_eq_true rfl) (by decide +kernel) dX13_condition_91 (by first | with_reducible assumption) (by repeat (first | with_reducible assumption | (with_reducible refine (sv_ls (by first | omega | (simp only [List.length_set]; omega))).trans ?_; exact rfl) | with_reducible refine (List.getElem?_set_ne (by decide)).trans ?_)) ?_
    refine v_iload_n dX13_condition_94 rfl 4 rfl ?_
    refine v_laldS (v := fv rr) dX13_condition_95 (by first | with_reducible assumption) (vp_in_nI hrr (by omega)) (by rw [nI_clamp (by omega)]) ?_
    refine v_lconst (v := 0) dX13_condition_96 (by decide) ?_
    refine v_lcmp_ge (tgt := 117) dX13_condition_97 dX13_condition_98 (by decide) (fun c_98 => ?_) (fun c_98 => ?_)
    · refine v_iconst (v := 0) dX13_condition_117 (by decide) ?_
      refine v_istore (L' := [(6, _), (5, _), (3, _), (2, _), (0, _), (1, _)]) dX13_condition_118 (Nat.le_of_ble_eq_true rfl) rfl ?_
      refine v_sub (L' := [(6, _), (5, _), (3, _), (2, _), (0, _), (1, _)]) [0, 1, 2, 3, 4, 5] rfl ?_
      refine t_c3 G h z b n fs F f tp j ht2 htp hn hm H hok rr hrr fk fr fv fe hk0 hr0 hv0 he0 q1 q2 q3 q4 k x4 x5 x6 uk u4 u5 u6 v4 v5 v6 w5 _ b5 ?_
      first
      | exact Or.inl ⟨rfl, (w_nm (by decide)).mp c_87, ((cd_lt v5).mp (by rw [← u5]; exact Int64.not_le.mp c_98)), Or.inl c_104⟩
      | exact Or.inl ⟨rfl, (w_nm (by decide)).mp c_87, ((cd_lt v5).mp (by rw [← u5]; exact Int64.not_le.mp c_98)), Or.inr c_110⟩
      | exact Or.inr ⟨rfl, fun s => s.2.2.elim c_104 c_110⟩
      | exact Or.inr ⟨rfl, (fun s => absurd ((cd_lt v5).mpr s.2.1) (by rw [← u5]; exact Int64.not_lt.mpr c_98))⟩
      | exact Or.inr ⟨rfl, fun s => c_87 ((w_nm (by decide)).mpr s.1)⟩
    · refine v_iload_n dX13_condition_101 rfl 2 rfl ?_
      refine v_bipush (v := 7) dX13_condition_102 (by decide) ?_
      refine v_icmp_eq (tgt := 113) dX13_condition_104 (by decide) (fun c_104 => ?_) (fun c_104 => ?_)
      · refine v_iconst (v := 1) dX13_condition_113 (by decide) ?_
        refine v_goto (tgt := 118) dX13_condition_114 (by decide) ?_
        refine v_istore (L' := [(6, _), (5, _), (3, _), (2, _), (0, _), (1, _)]) dX13_condition_118 (Nat.le_of_ble_eq_true rfl) rfl ?_
        refine v_sub (L' := [(6, _), (5, _), (3, _), (2, _), (0, _), (1, _)]) [0, 1, 2, 3, 4, 5] rfl ?_
        refine t_c3 G h z b n fs F f tp j ht2 htp hn hm H hok rr hrr fk fr fv fe hk0 hr0 hv0 he0 q1 q2 q3 q4 k x4 x5 x6 uk u4 u5 u6 v4 v5 v6 w5 _ b5 ?_
        first
        | exact Or.inl ⟨rfl, (w_nm (by decide)).mp c_87, ((cd_lt v5).mp (by rw [← u5]; exact Int64.not_le.mp c_98)), Or.inl c_104⟩
        | exact Or.inl ⟨rfl, (w_nm (by decide)).mp c_87, ((cd_lt v5).mp (by rw [← u5]; exact Int64.not_le.mp c_98)), Or.inr c_110⟩
        | exact Or.inr ⟨rfl, fun s => s.2.2.elim c_104 c_110⟩
        | exact Or.inr ⟨rfl, (fun s => absurd ((cd_lt v5).mpr s.2.1) (by rw [← u5]; exact Int64.not_lt.mpr c_98))⟩
        | exact Or.inr ⟨rfl, fun s => c_87 ((w_nm (by decide)).mpr s.1)⟩
      · refine v_iload_n dX13_condition_107 rfl 2 rfl ?_
        refine v_bipush (v := 8) dX13_condition_108 (by decide) ?_
        refine v_icmp_ne (tgt := 117) dX13_condition_110 (by decide) (fun c_110 => ?_) (fun c_110 => ?_)
        · refine v_iconst (v := 0) dX13_condition_117 (by decide) ?_
          refine v_istore (L' := [(6, _), (5, _), (3, _), (2, _), (0, _), (1, _)]) dX13_condition_118 (Nat.le_of_ble_eq_true rfl) rfl ?_
          refine v_sub (L' := [(6, _), (5, _), (3, _), (2, _), (0, _), (1, _)]) [0, 1, 2, 3, 4, 5] rfl ?_
          refine t_c3 G h z b n fs F f tp j ht2 htp hn hm H hok rr hrr fk fr fv fe hk0 hr0 hv0 he0 q1 q2 q3 q4 k x4 x5 x6 uk u4 u5 u6 v4 v5 v6 w5 _ b5 ?_
          first
          | exact Or.inl ⟨rfl, (w_nm (by decide)).mp c_87, ((cd_lt v5).mp (by rw [← u5]; exact Int64.not_le.mp c_98)), Or.inl c_104⟩
          | exact Or.inl ⟨rfl, (w_nm (by decide)).mp c_87, ((cd_lt v5).mp (by rw [← u5]; exact Int64.not_le.mp c_98)), Or.inr c_110⟩
          | exact Or.inr ⟨rfl, fun s => s.2.2.elim c_104 c_110⟩
          | exact Or.inr ⟨rfl, (fun s => absurd ((cd_lt v5).mpr s.2.1) (by rw [← u5]; exact Int64.not_lt.mpr c_98))⟩
          | exact Or.inr ⟨rfl, fun s => c_87 ((w_nm (by decide)).mpr s.1)⟩
        · refine v_iconst (v := 1) dX13_condition_113 (by decide) ?_
          refine v_goto (tgt := 118) dX13_condition_114 (by decide) ?_
          refine v_istore (L' := [(6, _), (5, _), (3, _), (2, _), (0, _), (1, _)]) dX13_condition_118 (Nat.le_of_ble_eq_true rfl) rfl ?_
          refine v_sub (L' := [(6, _), (5, _), (3, _), (2, _), (0, _), (1, _)]) [0, 1, 2, 3, 4, 5] rfl ?_
          refine t_c3 G h z b n fs F f tp j ht2 htp hn hm H hok rr hrr fk fr fv fe hk0 hr0 hv0 he0 q1 q2 q3 q4 k x4 x5 x6 uk u4 u5 u6 v4 v5 v6 w5 _ b5 ?_
          first
          | exact Or.inl ⟨rfl, (w_nm (by decide)).mp c_87, ((cd_lt v5).mp (by rw [← u5]; exact Int64.not_le.mp c_98)), Or.inl c_104⟩
          | exact Or.inl ⟨rfl, (w_nm (by decide)).mp c_87, ((cd_lt v5).mp (by rw [← u5]; exact Int64.not_le.mp c_98)), Or.inr c_110⟩
          | exact Or.inr ⟨rfl, fun s => s.2.2.elim c_104 c_110⟩
          | exact Or.inr ⟨rfl, (fun s => absurd ((cd_lt v5).mpr s.2.1) (by rw [← u5]; exact Int64.not_lt.mpr c_98))⟩
          | exact Or.inr ⟨rfl, fun s => c_87 ((w_nm (by decide)).mpr s.1)⟩

set_option maxHeartbeats 4000000 in
set_option maxRecDepth 100000 in
theorem m_condition (G : sv_G) (h : sv_h) (z b n : Nat) (fs F : List Value) (f tp : Nat → Int32) (j : Nat) (ht2 : ab_I G h (b + 232) 600 f) (htp : ∀ i, i < n → f i = tp i) (hn : n ≤ 600) (hm : h (b + 220) = some (.inr (11, F))) (H : ms_ b n tp fs F j 1) (hok : ∀ i, i < n → tp i = 10 ∨ (32 ≤ tp i ∧ tp i ≤ 126)) (rr : Nat) (hrr : rr < 40) (fk : Nat → Int32) (fr fv fe : Nat → Int64) (hk0 : ab_I G h (b + 233) 40 fk) (hr0 : ab_J G h (b + 237) 40 fr) (hv0 : ab_J G h (b + 238) 40 fv) (he0 : ab_J G h (b + 239) 40 fe) (q1 : fs[19]? = some (.ref (b + 233))) (q2 : fs[23]? = some (.ref (b + 237))) (q3 : fs[24]? = some (.ref (b + 238))) (q4 : fs[25]? = some (.ref (b + 239))) (k x4 x5 x6 : Int32) (uk : fk rr = k) (u4 : fr rr = x4.toInt64) (u5 : fv rr = x5.toInt64) (u6 : fe rr = x6.toInt64) (v4 : x4 = -1 ∨ 0 ≤ x4) (v5 : x5 = -1 ∨ 0 ≤ x5) (v6 : x6 = -1 ∨ 0 ≤ x6) : CT G mX13_condition [.ref (b + 220), .int (nI rr)] h z (fun v h1 z1 => v = none ∧ z1 = z ∧ (∃ (F1 : List Value) (fr1 fv1 fe1 : Nat → Int64) (j1 : Nat) (r1 : Int32), h1 (b + 220) = some (.inr (11, F1)) ∧ ab_J G h1 (b + 237) 40 fr1 ∧ ab_J G h1 (b + 238) 40 fv1 ∧ ab_J G h1 (b + 239) 40 fe1 ∧ (∀ i, i ≠ rr → fr1 i = fr i ∧ fv1 i = fv i ∧ fe1 i = fe i) ∧ ms_ b n tp fs F1 j1 r1 ∧ ((r1 = 1 ∧ ¬ (cd_w n tp k x4 x5 x6 j) = 0 ∧ w_nu n tp 1000000000 (j + 1) ∧ j1 = j + 2 ∧ fr1 rr = (cd_x (cd_w n tp k x4 x5 x6 j) 1 x4 (w_nv n tp (j + 1))).toInt64 ∧ fv1 rr = (cd_x (cd_w n tp k x4 x5 x6 j) 2 x5 (w_nv n tp (j + 1))).toInt64 ∧ fe1 rr = (cd_x (cd_w n tp k x4 x5 x6 j) 3 x6 (w_nv n tp (j + 1))).toInt64) ∨ (r1 = 0 ∧ (((cd_w n tp k x4 x5 x6 j) = 0 ∧ j1 = j) ∨ (¬ (cd_w n tp k x4 x5 x6 j) = 0 ∧ ¬ w_nu n tp 1000000000 (j + 1) ∧ j1 = j + 1))))) ∧ ∀ w, w ≠ b + 220 → w ≠ b + 237 → w ≠ b + 238 → w ≠ b + 239 → h1 w = h w) := by
  refine CT.of (by decide +kernel) rfl rfl (Nat.le_of_ble_eq_true rfl) ?_
  obtain ⟨g0, g1, g2, g3, g4, g5, g6, g7⟩ := id H
  have hlen := g0
  have f_kind := (g7 19 (by decide) (by decide) (by decide) (by decide)).trans q1
  have f_run := (g7 23 (by decide) (by decide) (by decide) (by decide)).trans q2
  have f_volt := (g7 24 (by decide) (by decide) (by decide) (by decide)).trans q3
  have f_end := (g7 25 (by decide) (by decide) (by decide) (by decide)).trans q4
  refine v_aload_n dX13_condition_0 rfl 0 rfl ?_
  refine v_getf 19 (ci := 11) (C := RX13) (T := TX13) (N := 71) rfl iwX13_condition_X13 (Nat.le_of_ble_eq_true rfl) (by decide +kernel) dX13_condition_1 (by first | with_reducible assumption) (by repeat (first | with_reducible assumption | (with_reducible refine (sv_ls (by first | omega | (simp only [List.length_set]; omega))).trans ?_; exact rfl) | with_reducible refine (List.getElem?_set_ne (by decide)).trans ?_)) ?_
  refine v_iload_n dX13_condition_4 rfl 1 rfl ?_
  refine v_ialdS (v := k) dX13_condition_5 (by first | with_reducible assumption) (vp_in_nI hrr (by omega)) (by rw [nI_clamp (by omega)]; exact uk) ?_
  refine v_istore_n (L' := [(2, _), (0, _), (1, _)]) dX13_condition_6 rfl (Nat.le_of_ble_eq_true rfl) rfl ?_
  refine v_aload_n dX13_condition_7 rfl 1 rfl ?_
  refine v_callVq (M' := mX13_name) (n := 0) (As := []) (ci := 11) (r := (RX13, TX13, 71)) gX13_condition_X13_name rfl (by decide +kernel) ⟨(Nat.le_of_ble_eq_true rfl), (Nat.le_of_ble_eq_true rfl)⟩ rfl rfl dX13_condition_8 rfl ⟨(Nat.le_of_ble_eq_true rfl), (Nat.le_of_ble_eq_true rfl)⟩ (Nat.le_of_ble_eq_true rfl) (by first | with_reducible assumption) rfl (m_nameJ G h z b n fs F f tp j 1 ht2 htp hn hm H hok) (fun v h1 z1 hq => v_pq hq ?_)
  refine v_lstore_n (L' := [(3, _), (2, _), (0, _), (1, _)]) dX13_condition_11 rfl (Nat.le_of_ble_eq_true rfl) rfl ?_
  refine v_lload_n dX13_condition_12 rfl 0 rfl ?_
  refine v_bipush (v := 114) dX13_condition_13 (by decide) ?_
  refine v_bipush (v := 117) dX13_condition_15 (by decide) ?_
  refine v_bipush (v := 110) dX13_condition_17 (by decide) ?_
  refine v_iconst (v := 0) dX13_condition_19 (by decide) ?_
  refine v_iconst (v := 0) dX13_condition_20 (by decide) ?_
  refine v_callSq (M' := mX13_word) (n := 5) (As := [_, _, _, _, _]) ggX13_condition_X13_word (by decide +kernel) (by decide +kernel) (by decide +kernel) rfl (by decide +kernel) ⟨(Nat.le_of_ble_eq_true rfl), (Nat.le_of_ble_eq_true rfl)⟩ dX13_condition_21 rfl ⟨(Nat.le_of_ble_eq_true rfl), (Nat.le_of_ble_eq_true rfl)⟩ (Nat.le_of_ble_eq_true rfl) rfl (m_word G _ _ _ _ _ _ _) (fun v h1 z1 hq => v_pq hq ?_)
  refine v_lcmp_ne (tgt := 70) dX13_condition_24 dX13_condition_25 (by decide) (fun c_25 => ?_) (fun c_25 => ?_)
  · refine v_iconst (v := 0) dX13_condition_70 (by decide) ?_
    refine v_istore (L' := [(5, _), (3, _), (2, _), (0, _), (1, _)]) dX13_condition_71 (Nat.le_of_ble_eq_true rfl) rfl ?_
    refine v_sub (L' := [(5, _), (3, _), (2, _), (0, _), (1, _)]) [0, 1, 2, 3, 4] rfl ?_
    refine t_c2 G h z b n fs F f tp j ht2 htp hn hm H hok rr hrr fk fr fv fe hk0 hr0 hv0 he0 q1 q2 q3 q4 k x4 x5 x6 uk u4 u5 u6 v4 v5 v6 _ ?_
    first
    | exact Or.inl ⟨rfl, (w_nm (by decide)).mp c_25, ((cd_lt v4).mp (by rw [← u4]; exact Int64.not_le.mp c_36)), Or.inl c_40⟩
    | exact Or.inl ⟨rfl, (w_nm (by decide)).mp c_25, ((cd_lt v4).mp (by rw [← u4]; exact Int64.not_le.mp c_36)), Or.inr (Or.inl c_45)⟩
    | exact Or.inl ⟨rfl, (w_nm (by decide)).mp c_25, ((cd_lt v4).mp (by rw [← u4]; exact Int64.not_le.mp c_36)), Or.inr (Or.inr (Or.inl c_51))⟩
    | exact Or.inl ⟨rfl, (w_nm (by decide)).mp c_25, ((cd_lt v4).mp (by rw [← u4]; exact Int64.not_le.mp c_36)), Or.inr (Or.inr (Or.inr (Or.inl c_57)))⟩
    | exact Or.inl ⟨rfl, (w_nm (by decide)).mp c_25, ((cd_lt v4).mp (by rw [← u4]; exact Int64.not_le.mp c_36)), Or.inr (Or.inr (Or.inr (Or.inr c_63)))⟩
    | exact Or.inr ⟨rfl, fun s => s.2.2.elim c_40 (fun s => s.elim c_45 (fun s => s.elim c_51 (fun s => s.elim c_57 c_63)))⟩
    | exact Or.inr ⟨rfl, (fun s => absurd ((cd_lt v4).mpr s.2.1) (by rw [← u4]; exact Int64.not_lt.mpr c_36))⟩
    | exact Or.inr ⟨rfl, fun s => c_25 ((w_nm (by decide)).mpr s.1)⟩
  · refine v_aload_n dX13_condition_28 rfl 2 rfl ?_
    refine v_getf 23 (ci := 11) (C := RX13) (T := TX13) (N := 71) rfl iwX13_condition_X13 (Nat.le_of_ble_eq_true rfl) (by decide +kernel) dX13_condition_29 (by first | with_reducible assumption) (by repeat (first | with_reducible assumption | (with_reducible refine (sv_ls (by first | omega | (simp only [List.length_set]; omega))).trans ?_; exact rfl) | with_reducible refine (List.getElem?_set_ne (by decide)).trans ?_)) ?_
    refine v_iload_n dX13_condition_32 rfl 3 rfl ?_
    refine v_laldS (v := fr rr) dX13_condition_33 (by first | with_reducible assumption) (vp_in_nI hrr (by omega)) (by rw [nI_clamp (by omega)]) ?_
    refine v_lconst (v := 0) dX13_condition_34 (by decide) ?_
    refine v_lcmp_ge (tgt := 70) dX13_condition_35 dX13_condition_36 (by decide) (fun c_36 => ?_) (fun c_36 => ?_)
    · refine v_iconst (v := 0) dX13_condition_70 (by decide) ?_
      refine v_istore (L' := [(5, _), (3, _), (2, _), (0, _), (1, _)]) dX13_condition_71 (Nat.le_of_ble_eq_true rfl) rfl ?_
      refine v_sub (L' := [(5, _), (3, _), (2, _), (0, _), (1, _)]) [0, 1, 2, 3, 4] rfl ?_
      refine t_c2 G h z b n fs F f tp j ht2 htp hn hm H hok rr hrr fk fr fv fe hk0 hr0 hv0 he0 q1 q2 q3 q4 k x4 x5 x6 uk u4 u5 u6 v4 v5 v6 _ ?_
      first
      | exact Or.inl ⟨rfl, (w_nm (by decide)).mp c_25, ((cd_lt v4).mp (by rw [← u4]; exact Int64.not_le.mp c_36)), Or.inl c_40⟩
      | exact Or.inl ⟨rfl, (w_nm (by decide)).mp c_25, ((cd_lt v4).mp (by rw [← u4]; exact Int64.not_le.mp c_36)), Or.inr (Or.inl c_45)⟩
      | exact Or.inl ⟨rfl, (w_nm (by decide)).mp c_25, ((cd_lt v4).mp (by rw [← u4]; exact Int64.not_le.mp c_36)), Or.inr (Or.inr (Or.inl c_51))⟩
      | exact Or.inl ⟨rfl, (w_nm (by decide)).mp c_25, ((cd_lt v4).mp (by rw [← u4]; exact Int64.not_le.mp c_36)), Or.inr (Or.inr (Or.inr (Or.inl c_57)))⟩
      | exact Or.inl ⟨rfl, (w_nm (by decide)).mp c_25, ((cd_lt v4).mp (by rw [← u4]; exact Int64.not_le.mp c_36)), Or.inr (Or.inr (Or.inr (Or.inr c_63)))⟩
      | exact Or.inr ⟨rfl, fun s => s.2.2.elim c_40 (fun s => s.elim c_45 (fun s => s.elim c_51 (fun s => s.elim c_57 c_63)))⟩
      | exact Or.inr ⟨rfl, (fun s => absurd ((cd_lt v4).mpr s.2.1) (by rw [← u4]; exact Int64.not_lt.mpr c_36))⟩
      | exact Or.inr ⟨rfl, fun s => c_25 ((w_nm (by decide)).mpr s.1)⟩
    · refine v_iload_n dX13_condition_39 rfl 1 rfl ?_
      refine v_if_eq (tgt := 66) dX13_condition_40 (by decide) (fun c_40 => ?_) (fun c_40 => ?_)
      · refine v_iconst (v := 1) dX13_condition_66 (by decide) ?_
        refine v_goto (tgt := 71) dX13_condition_67 (by decide) ?_
        refine v_istore (L' := [(5, _), (3, _), (2, _), (0, _), (1, _)]) dX13_condition_71 (Nat.le_of_ble_eq_true rfl) rfl ?_
        refine v_sub (L' := [(5, _), (3, _), (2, _), (0, _), (1, _)]) [0, 1, 2, 3, 4] rfl ?_
        refine t_c2 G h z b n fs F f tp j ht2 htp hn hm H hok rr hrr fk fr fv fe hk0 hr0 hv0 he0 q1 q2 q3 q4 k x4 x5 x6 uk u4 u5 u6 v4 v5 v6 _ ?_
        first
        | exact Or.inl ⟨rfl, (w_nm (by decide)).mp c_25, ((cd_lt v4).mp (by rw [← u4]; exact Int64.not_le.mp c_36)), Or.inl c_40⟩
        | exact Or.inl ⟨rfl, (w_nm (by decide)).mp c_25, ((cd_lt v4).mp (by rw [← u4]; exact Int64.not_le.mp c_36)), Or.inr (Or.inl c_45)⟩
        | exact Or.inl ⟨rfl, (w_nm (by decide)).mp c_25, ((cd_lt v4).mp (by rw [← u4]; exact Int64.not_le.mp c_36)), Or.inr (Or.inr (Or.inl c_51))⟩
        | exact Or.inl ⟨rfl, (w_nm (by decide)).mp c_25, ((cd_lt v4).mp (by rw [← u4]; exact Int64.not_le.mp c_36)), Or.inr (Or.inr (Or.inr (Or.inl c_57)))⟩
        | exact Or.inl ⟨rfl, (w_nm (by decide)).mp c_25, ((cd_lt v4).mp (by rw [← u4]; exact Int64.not_le.mp c_36)), Or.inr (Or.inr (Or.inr (Or.inr c_63)))⟩
        | exact Or.inr ⟨rfl, fun s => s.2.2.elim c_40 (fun s => s.elim c_45 (fun s => s.elim c_51 (fun s => s.elim c_57 c_63)))⟩
        | exact Or.inr ⟨rfl, (fun s => absurd ((cd_lt v4).mpr s.2.1) (by rw [← u4]; exact Int64.not_lt.mpr c_36))⟩
        | exact Or.inr ⟨rfl, fun s => c_25 ((w_nm (by decide)).mpr s.1)⟩
      · refine v_iload_n dX13_condition_43 rfl 1 rfl ?_
        refine v_iconst (v := 1) dX13_condition_44 (by decide) ?_
        refine v_icmp_eq (tgt := 66) dX13_condition_45 (by decide) (fun c_45 => ?_) (fun c_45 => ?_)
        · refine v_iconst (v := 1) dX13_condition_66 (by decide) ?_
          refine v_goto (tgt := 71) dX13_condition_67 (by decide) ?_
          refine v_istore (L' := [(5, _), (3, _), (2, _), (0, _), (1, _)]) dX13_condition_71 (Nat.le_of_ble_eq_true rfl) rfl ?_
          refine v_sub (L' := [(5, _), (3, _), (2, _), (0, _), (1, _)]) [0, 1, 2, 3, 4] rfl ?_
          refine t_c2 G h z b n fs F f tp j ht2 htp hn hm H hok rr hrr fk fr fv fe hk0 hr0 hv0 he0 q1 q2 q3 q4 k x4 x5 x6 uk u4 u5 u6 v4 v5 v6 _ ?_
          first
          | exact Or.inl ⟨rfl, (w_nm (by decide)).mp c_25, ((cd_lt v4).mp (by rw [← u4]; exact Int64.not_le.mp c_36)), Or.inl c_40⟩
          | exact Or.inl ⟨rfl, (w_nm (by decide)).mp c_25, ((cd_lt v4).mp (by rw [← u4]; exact Int64.not_le.mp c_36)), Or.inr (Or.inl c_45)⟩
          | exact Or.inl ⟨rfl, (w_nm (by decide)).mp c_25, ((cd_lt v4).mp (by rw [← u4]; exact Int64.not_le.mp c_36)), Or.inr (Or.inr (Or.inl c_51))⟩
          | exact Or.inl ⟨rfl, (w_nm (by decide)).mp c_25, ((cd_lt v4).mp (by rw [← u4]; exact Int64.not_le.mp c_36)), Or.inr (Or.inr (Or.inr (Or.inl c_57)))⟩
          | exact Or.inl ⟨rfl, (w_nm (by decide)).mp c_25, ((cd_lt v4).mp (by rw [← u4]; exact Int64.not_le.mp c_36)), Or.inr (Or.inr (Or.inr (Or.inr c_63)))⟩
          | exact Or.inr ⟨rfl, fun s => s.2.2.elim c_40 (fun s => s.elim c_45 (fun s => s.elim c_51 (fun s => s.elim c_57 c_63)))⟩
          | exact Or.inr ⟨rfl, (fun s => absurd ((cd_lt v4).mpr s.2.1) (by rw [← u4]; exact Int64.not_lt.mpr c_36))⟩
          | exact Or.inr ⟨rfl, fun s => c_25 ((w_nm (by decide)).mpr s.1)⟩
        · refine v_iload_n dX13_condition_48 rfl 1 rfl ?_
          refine v_bipush (v := 7) dX13_condition_49 (by decide) ?_
          refine v_icmp_eq (tgt := 66) dX13_condition_51 (by decide) (fun c_51 => ?_) (fun c_51 => ?_)
          · refine v_iconst (v := 1) dX13_condition_66 (by decide) ?_
            refine v_goto (tgt := 71) dX13_condition_67 (by decide) ?_
            refine v_istore (L' := [(5, _), (3, _), (2, _), (0, _), (1, _)]) dX13_condition_71 (Nat.le_of_ble_eq_true rfl) rfl ?_
            refine v_sub (L' := [(5, _), (3, _), (2, _), (0, _), (1, _)]) [0, 1, 2, 3, 4] rfl ?_
            refine t_c2 G h z b n fs F f tp j ht2 htp hn hm H hok rr hrr fk fr fv fe hk0 hr0 hv0 he0 q1 q2 q3 q4 k x4 x5 x6 uk u4 u5 u6 v4 v5 v6 _ ?_
            first
            | exact Or.inl ⟨rfl, (w_nm (by decide)).mp c_25, ((cd_lt v4).mp (by rw [← u4]; exact Int64.not_le.mp c_36)), Or.inl c_40⟩
            | exact Or.inl ⟨rfl, (w_nm (by decide)).mp c_25, ((cd_lt v4).mp (by rw [← u4]; exact Int64.not_le.mp c_36)), Or.inr (Or.inl c_45)⟩
            | exact Or.inl ⟨rfl, (w_nm (by decide)).mp c_25, ((cd_lt v4).mp (by rw [← u4]; exact Int64.not_le.mp c_36)), Or.inr (Or.inr (Or.inl c_51))⟩
            | exact Or.inl ⟨rfl, (w_nm (by decide)).mp c_25, ((cd_lt v4).mp (by rw [← u4]; exact Int64.not_le.mp c_36)), Or.inr (Or.inr (Or.inr (Or.inl c_57)))⟩
            | exact Or.inl ⟨rfl, (w_nm (by decide)).mp c_25, ((cd_lt v4).mp (by rw [← u4]; exact Int64.not_le.mp c_36)), Or.inr (Or.inr (Or.inr (Or.inr c_63)))⟩
            | exact Or.inr ⟨rfl, fun s => s.2.2.elim c_40 (fun s => s.elim c_45 (fun s => s.elim c_51 (fun s => s.elim c_57 c_63)))⟩
            | exact Or.inr ⟨rfl, (fun s => absurd ((cd_lt v4).mpr s.2.1) (by rw [← u4]; exact Int64.not_lt.mpr c_36))⟩
            | exact Or.inr ⟨rfl, fun s => c_25 ((w_nm (by decide)).mpr s.1)⟩
          · refine v_iload_n dX13_condition_54 rfl 1 rfl ?_
            refine v_bipush (v := 9) dX13_condition_55 (by decide) ?_
            refine v_icmp_eq (tgt := 66) dX13_condition_57 (by decide) (fun c_57 => ?_) (fun c_57 => ?_)
            · refine v_iconst (v := 1) dX13_condition_66 (by decide) ?_
              refine v_goto (tgt := 71) dX13_condition_67 (by decide) ?_
              refine v_istore (L' := [(5, _), (3, _), (2, _), (0, _), (1, _)]) dX13_condition_71 (Nat.le_of_ble_eq_true rfl) rfl ?_
              refine v_sub (L' := [(5, _), (3, _), (2, _), (0, _), (1, _)]) [0, 1, 2, 3, 4] rfl ?_
              refine t_c2 G h z b n fs F f tp j ht2 htp hn hm H hok rr hrr fk fr fv fe hk0 hr0 hv0 he0 q1 q2 q3 q4 k x4 x5 x6 uk u4 u5 u6 v4 v5 v6 _ ?_
              first
              | exact Or.inl ⟨rfl, (w_nm (by decide)).mp c_25, ((cd_lt v4).mp (by rw [← u4]; exact Int64.not_le.mp c_36)), Or.inl c_40⟩
              | exact Or.inl ⟨rfl, (w_nm (by decide)).mp c_25, ((cd_lt v4).mp (by rw [← u4]; exact Int64.not_le.mp c_36)), Or.inr (Or.inl c_45)⟩
              | exact Or.inl ⟨rfl, (w_nm (by decide)).mp c_25, ((cd_lt v4).mp (by rw [← u4]; exact Int64.not_le.mp c_36)), Or.inr (Or.inr (Or.inl c_51))⟩
              | exact Or.inl ⟨rfl, (w_nm (by decide)).mp c_25, ((cd_lt v4).mp (by rw [← u4]; exact Int64.not_le.mp c_36)), Or.inr (Or.inr (Or.inr (Or.inl c_57)))⟩
              | exact Or.inl ⟨rfl, (w_nm (by decide)).mp c_25, ((cd_lt v4).mp (by rw [← u4]; exact Int64.not_le.mp c_36)), Or.inr (Or.inr (Or.inr (Or.inr c_63)))⟩
              | exact Or.inr ⟨rfl, fun s => s.2.2.elim c_40 (fun s => s.elim c_45 (fun s => s.elim c_51 (fun s => s.elim c_57 c_63)))⟩
              | exact Or.inr ⟨rfl, (fun s => absurd ((cd_lt v4).mpr s.2.1) (by rw [← u4]; exact Int64.not_lt.mpr c_36))⟩
              | exact Or.inr ⟨rfl, fun s => c_25 ((w_nm (by decide)).mpr s.1)⟩
            · refine v_iload_n dX13_condition_60 rfl 1 rfl ?_
              refine v_bipush (v := 10) dX13_condition_61 (by decide) ?_
              refine v_icmp_ne (tgt := 70) dX13_condition_63 (by decide) (fun c_63 => ?_) (fun c_63 => ?_)
              · refine v_iconst (v := 0) dX13_condition_70 (by decide) ?_
                refine v_istore (L' := [(5, _), (3, _), (2, _), (0, _), (1, _)]) dX13_condition_71 (Nat.le_of_ble_eq_true rfl) rfl ?_
                refine v_sub (L' := [(5, _), (3, _), (2, _), (0, _), (1, _)]) [0, 1, 2, 3, 4] rfl ?_
                refine t_c2 G h z b n fs F f tp j ht2 htp hn hm H hok rr hrr fk fr fv fe hk0 hr0 hv0 he0 q1 q2 q3 q4 k x4 x5 x6 uk u4 u5 u6 v4 v5 v6 _ ?_
                first
                | exact Or.inl ⟨rfl, (w_nm (by decide)).mp c_25, ((cd_lt v4).mp (by rw [← u4]; exact Int64.not_le.mp c_36)), Or.inl c_40⟩
                | exact Or.inl ⟨rfl, (w_nm (by decide)).mp c_25, ((cd_lt v4).mp (by rw [← u4]; exact Int64.not_le.mp c_36)), Or.inr (Or.inl c_45)⟩
                | exact Or.inl ⟨rfl, (w_nm (by decide)).mp c_25, ((cd_lt v4).mp (by rw [← u4]; exact Int64.not_le.mp c_36)), Or.inr (Or.inr (Or.inl c_51))⟩
                | exact Or.inl ⟨rfl, (w_nm (by decide)).mp c_25, ((cd_lt v4).mp (by rw [← u4]; exact Int64.not_le.mp c_36)), Or.inr (Or.inr (Or.inr (Or.inl c_57)))⟩
                | exact Or.inl ⟨rfl, (w_nm (by decide)).mp c_25, ((cd_lt v4).mp (by rw [← u4]; exact Int64.not_le.mp c_36)), Or.inr (Or.inr (Or.inr (Or.inr c_63)))⟩
                | exact Or.inr ⟨rfl, fun s => s.2.2.elim c_40 (fun s => s.elim c_45 (fun s => s.elim c_51 (fun s => s.elim c_57 c_63)))⟩
                | exact Or.inr ⟨rfl, (fun s => absurd ((cd_lt v4).mpr s.2.1) (by rw [← u4]; exact Int64.not_lt.mpr c_36))⟩
                | exact Or.inr ⟨rfl, fun s => c_25 ((w_nm (by decide)).mpr s.1)⟩
              · refine v_iconst (v := 1) dX13_condition_66 (by decide) ?_
                refine v_goto (tgt := 71) dX13_condition_67 (by decide) ?_
                refine v_istore (L' := [(5, _), (3, _), (2, _), (0, _), (1, _)]) dX13_condition_71 (Nat.le_of_ble_eq_true rfl) rfl ?_
                refine v_sub (L' := [(5, _), (3, _), (2, _), (0, _), (1, _)]) [0, 1, 2, 3, 4] rfl ?_
                refine t_c2 G h z b n fs F f tp j ht2 htp hn hm H hok rr hrr fk fr fv fe hk0 hr0 hv0 he0 q1 q2 q3 q4 k x4 x5 x6 uk u4 u5 u6 v4 v5 v6 _ ?_
                first
                | exact Or.inl ⟨rfl, (w_nm (by decide)).mp c_25, ((cd_lt v4).mp (by rw [← u4]; exact Int64.not_le.mp c_36)), Or.inl c_40⟩
                | exact Or.inl ⟨rfl, (w_nm (by decide)).mp c_25, ((cd_lt v4).mp (by rw [← u4]; exact Int64.not_le.mp c_36)), Or.inr (Or.inl c_45)⟩
                | exact Or.inl ⟨rfl, (w_nm (by decide)).mp c_25, ((cd_lt v4).mp (by rw [← u4]; exact Int64.not_le.mp c_36)), Or.inr (Or.inr (Or.inl c_51))⟩
                | exact Or.inl ⟨rfl, (w_nm (by decide)).mp c_25, ((cd_lt v4).mp (by rw [← u4]; exact Int64.not_le.mp c_36)), Or.inr (Or.inr (Or.inr (Or.inl c_57)))⟩
                | exact Or.inl ⟨rfl, (w_nm (by decide)).mp c_25, ((cd_lt v4).mp (by rw [← u4]; exact Int64.not_le.mp c_36)), Or.inr (Or.inr (Or.inr (Or.inr c_63)))⟩
                | exact Or.inr ⟨rfl, fun s => s.2.2.elim c_40 (fun s => s.elim c_45 (fun s => s.elim c_51 (fun s => s.elim c_57 c_63)))⟩
                | exact Or.inr ⟨rfl, (fun s => absurd ((cd_lt v4).mpr s.2.1) (by rw [← u4]; exact Int64.not_lt.mpr c_36))⟩
                | exact Or.inr ⟨rfl, fun s => c_25 ((w_nm (by decide)).mpr s.1)⟩

