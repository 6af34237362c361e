theorem ab_MScr.s_under {G : sv_G} {h h1 : sv_h} {b : Nat} (H : ab_MScr G h b) {f : Nat → Int32} (hf : ab_Z G h1 (b + 243) 16 f) (e : ∀ a, b + 243 ≤ a → a < b + 261 → a ≠ b + 243 → h1 a = h a) : ab_MScr G h1 b := by
  obtain ⟨⟨f0, p0⟩, ⟨f1, p1⟩, ⟨f2, p2⟩, ⟨f3, p3⟩, ⟨f4, p4⟩, ⟨f5, p5⟩, ⟨f6, p6⟩, ⟨f7, p7⟩, ⟨f8, p8⟩, ⟨f9, p9⟩, ⟨f10, p10⟩, ⟨f11, p11⟩, ⟨f12, p12⟩, ⟨f13, p13⟩, ⟨f14, p14⟩, ⟨f15, p15⟩, ⟨f16, p16⟩, ⟨f17, p17⟩⟩ := H
  exact ⟨⟨f, hf⟩, ⟨f1, (e _ (by omega) (by omega) (by omega)).trans p1⟩, ⟨f2, (e _ (by omega) (by omega) (by omega)).trans p2⟩, ⟨f3, (e _ (by omega) (by omega) (by omega)).trans p3⟩, ⟨f4, (e _ (by omega) (by omega) (by omega)).trans p4⟩, ⟨f5, (e _ (by omega) (by omega) (by omega)).trans p5⟩, ⟨f6, (e _ (by omega) (by omega) (by omega)).trans p6⟩, ⟨f7, (e _ (by omega) (by omega) (by omega)).trans p7⟩, ⟨f8, (e _ (by omega) (by omega) (by omega)).trans p8⟩, ⟨f9, (e _ (by omega) (by omega) (by omega)).trans p9⟩, ⟨f10, (e _ (by omega) (by omega) (by omega)).trans p10⟩, ⟨f11, (e _ (by omega) (by omega) (by omega)).trans p11⟩, ⟨f12, (e _ (by omega) (by omega) (by omega)).trans p12⟩, ⟨f13, (e _ (by omega) (by omega) (by omega)).trans p13⟩, ⟨f14, (e _ (by omega) (by omega) (by omega)).trans p14⟩, ⟨f15, (e _ (by omega) (by omega) (by omega)).trans p15⟩, ⟨f16, (e _ (by omega) (by omega) (by omega)).trans p16⟩, ⟨f17, (e _ (by omega) (by omega) (by omega)).trans p17⟩⟩
theorem ab_MScr.s_sizes {G : sv_G} {h h1 : sv_h} {b : Nat} (H : ab_MScr G h b) {f : Nat → Int64} (hf : ab_J G h1 (b + 248) 16 f) (e : ∀ a, b + 243 ≤ a → a < b + 261 → a ≠ b + 248 → h1 a = h a) : ab_MScr G h1 b := by
  obtain ⟨⟨f0, p0⟩, ⟨f1, p1⟩, ⟨f2, p2⟩, ⟨f3, p3⟩, ⟨f4, p4⟩, ⟨f5, p5⟩, ⟨f6, p6⟩, ⟨f7, p7⟩, ⟨f8, p8⟩, ⟨f9, p9⟩, ⟨f10, p10⟩, ⟨f11, p11⟩, ⟨f12, p12⟩, ⟨f13, p13⟩, ⟨f14, p14⟩, ⟨f15, p15⟩, ⟨f16, p16⟩, ⟨f17, p17⟩⟩ := H
  exact ⟨⟨f0, (e _ (by omega) (by omega) (by omega)).trans p0⟩, ⟨f1, (e _ (by omega) (by omega) (by omega)).trans p1⟩, ⟨f2, (e _ (by omega) (by omega) (by omega)).trans p2⟩, ⟨f3, (e _ (by omega) (by omega) (by omega)).trans p3⟩, ⟨f4, (e _ (by omega) (by omega) (by omega)).trans p4⟩, ⟨f, hf⟩, ⟨f6, (e _ (by omega) (by omega) (by omega)).trans p6⟩, ⟨f7, (e _ (by omega) (by omega) (by omega)).trans p7⟩, ⟨f8, (e _ (by omega) (by omega) (by omega)).trans p8⟩, ⟨f9, (e _ (by omega) (by omega) (by omega)).trans p9⟩, ⟨f10, (e _ (by omega) (by omega) (by omega)).trans p10⟩, ⟨f11, (e _ (by omega) (by omega) (by omega)).trans p11⟩, ⟨f12, (e _ (by omega) (by omega) (by omega)).trans p12⟩, ⟨f13, (e _ (by omega) (by omega) (by omega)).trans p13⟩, ⟨f14, (e _ (by omega) (by omega) (by omega)).trans p14⟩, ⟨f15, (e _ (by omega) (by omega) (by omega)).trans p15⟩, ⟨f16, (e _ (by omega) (by omega) (by omega)).trans p16⟩, ⟨f17, (e _ (by omega) (by omega) (by omega)).trans p17⟩⟩
theorem ab_Inv_lay2 {G : sv_G} {b z : Nat} {h h1 : sv_h} {k : Int32} {nc np pl : Nat} {sz : Nat → Nat} {t : Nat → Nat → Int32} {u : Nat → Nat → Nat → Int32} {pa ma : Nat → Nat} {tn : Nat} {tp : Nat → Int32} {nr : Nat} {r : Nat → Nat → Int32} {ru rd nl : Nat} {lr : Nat → Int64} {la fo fl nw : Nat} {wr : Nat → Int64} {lX lq lf mf : Int32} {fs : List Value} (gTp : ab_Tape G h b tn tp) (gMTp : ab_MTape G h b tn tp) (gRu : ab_rows G h ru (ru + 1)) (gRd : ab_rows G h rd (rd + 1)) (gRl : ab_Rule G h (ru + 1) nr r) (gRr : ab_Rdr G h b rd k) (gMR : ab_MRule G h b nr r) (gLa : ab_late G h la nl lr) (gFo : ab_any G h fo) (gFl : ab_any G h fl) (gLo : ab_any G h (b + 216)) (gMLa : ab_MLate G h b nl lr) (gWv : ab_wv G h b nw wr) (gMWv : ab_MWv G h b nw wr) (gDk : ab_Dk G h b nr lX lf ru rd la fo fl) (glq : nl ≠ 0 → lX = lq) (gmf : (mf = 0 ∨ mf = 1) ∧ ∀ i, i < nr → ab_cd r i) (glf : lf = (if lq = -1 then 0 else mf)) (gCk : ab_Chk G h b) (gok : ab_ok nc np pl sz t u) (gLay : ab_Lay G h1 b k nc np pl sz t u pa ma) (gAd : ab_ad b np pl z pa ma) (gML : ab_MLay G h1 b nc np pl sz t u) (gSc : ab_MScr G h1 b) (e : ∀ a, (a = b ∨ b + 8 ≤ a) → a < b + 243 → a ≠ b + 220 → (a < b + 221 ∨ b + 232 ≤ a) → h1 a = h a) (hm : h1 (b + 220) = some (.inr (11, fs))) (gfs : ab_fs b k nc np pl tn nr nl lq mf nw fs) (go : ∃ f, h1 (b + 261) = some (.inl (G.2.2.1 1, 1, .inr (.inl f)))) : ab_Inv G b h1 z := by
  obtain ⟨gru, i1, i2, i3, i4, i5, i6, i7, i8, i9, gla, gfo, gfl⟩ := id gDk.2
  have gz := gAd.1
  exact ⟨k, nc, np, pl, sz, t, u, pa, ma, tn, tp, nr, r, ru, rd, nl, lr, la, fo, fl, nw, wr, lX, lq, lf, mf, fs, ⟨gok, gLay, gAd, gML⟩, ⟨gTp.kept (fun a q1 q2 => e a (by omega) (by omega) (by omega) (by omega)), gMTp.kept (fun a q1 q2 => e a (by omega) (by omega) (by omega) (by omega))⟩, ⟨gRu.kept (by omega) (fun a q1 q2 => e a (by omega) (by omega) (by omega) (by omega)), gRd.kept (by omega) (fun a q1 q2 => e a (by omega) (by omega) (by omega) (by omega)), gRl.kept (fun a q1 q2 => e a (by omega) (by omega) (by omega) (by omega)), gRr.kept (fun a q1 q2 => e a (by omega) (by omega) (by omega) (by omega)), gMR.kept (fun a q1 q2 => e a (by omega) (by omega) (by omega) (by omega))⟩, ⟨gLa.kept (fun a q1 q2 => e a (by omega) (by omega) (by omega) (by omega)), gFo.kept (fun a q1 q2 => e a (by omega) (by omega) (by omega) (by omega)), gFl.kept (fun a q1 q2 => e a (by omega) (by omega) (by omega) (by omega)), gLo.kept (fun a q1 q2 => e a (by omega) (by omega) (by omega) (by omega)), gMLa.kept (fun a q1 q2 => e a (by omega) (by omega) (by omega) (by omega))⟩, ⟨gWv.kept (fun a q1 q2 => e a (by omega) (by omega) (by omega) (by omega)), gMWv.kept (fun a q1 q2 => e a (by omega) (by omega) (by omega) (by omega))⟩, ⟨gDk.kept (fun a q1 q2 => e a (by omega) (by omega) (by omega) (by omega)), glq, gmf, glf⟩, ⟨hm, gfs⟩, ⟨gCk.kept (fun a q1 q2 => e a (by omega) (by omega) (by omega) (by omega)), gSc, go⟩⟩
/-- the tables with one place more -/
def ab_tq (t : Nat → Nat → Int32) (pl : Nat) (c of x y tu : Int32) : Nat → Nat → Int32 := fun c' i' => if i' = pl then (if c' = 3 then c else if c' = 4 then of else if c' = 5 then x else if c' = 6 then y else if c' = 7 then tu else t c' i') else t c' i'
theorem ab_tq_3 {t : Nat → Nat → Int32} {pl : Nat} {c of x y tu : Int32} : ab_tq t pl c of x y tu 3 pl = c := by simp [ab_tq]
theorem ab_tq_4 {t : Nat → Nat → Int32} {pl : Nat} {c of x y tu : Int32} : ab_tq t pl c of x y tu 4 pl = of := by simp [ab_tq]
theorem ab_tq_5 {t : Nat → Nat → Int32} {pl : Nat} {c of x y tu : Int32} : ab_tq t pl c of x y tu 5 pl = x := by simp [ab_tq]
theorem ab_tq_6 {t : Nat → Nat → Int32} {pl : Nat} {c of x y tu : Int32} : ab_tq t pl c of x y tu 6 pl = y := by simp [ab_tq]
theorem ab_tq_7 {t : Nat → Nat → Int32} {pl : Nat} {c of x y tu : Int32} : ab_tq t pl c of x y tu 7 pl = tu := by simp [ab_tq]
theorem ab_tq_i {t : Nat → Nat → Int32} {pl c' i' : Nat} {c of x y tu : Int32} (h : i' ≠ pl) : ab_tq t pl c of x y tu c' i' = t c' i' := by simp [ab_tq, h]
theorem ab_tq_c {t : Nat → Nat → Int32} {pl c' i' : Nat} {c of x y tu : Int32} (h : c' < 3) : ab_tq t pl c of x y tu c' i' = t c' i' := by
  unfold ab_tq
  by_cases q : i' = pl
  · rw [if_pos q, if_neg (by omega), if_neg (by omega), if_neg (by omega), if_neg (by omega), if_neg (by omega)]
  · rw [if_neg q]
/-- cells by number -/
def ab_c3 (t : Nat → Nat → Int32) (i : Nat) : Nat := (t 3 i).toNatClampNeg
def ab_c4 (t : Nat → Nat → Int32) (i : Nat) : Nat := (t 4 i).toNatClampNeg
theorem ab_ok.c34 {nc np pl : Nat} {sz : Nat → Nat} {t : Nat → Nat → Int32} {u : Nat → Nat → Nat → Int32} (H : ab_ok nc np pl sz t u) : ∀ i, i < pl → t 3 i = nI (ab_c3 t i) ∧ t 4 i = nI (ab_c4 t i) ∧ ab_c3 t i < nc ∧ ab_c4 t i < nc := by
  intro i hi
  have hn := H.1
  obtain ⟨⟨c, h1, h2⟩, ⟨d, h3, h4⟩, _⟩ := H.2.2.2.2.1 i hi
  have e1 : ab_c3 t i = c := by unfold ab_c3; rw [h2, nI_clamp (by omega)]
  have e2 : ab_c4 t i = d := by unfold ab_c4; rw [h4, nI_clamp (by omega)]
  rw [e1, e2]
  exact ⟨h2, h4, h1, h3⟩
theorem ab_ok.place {nc np pl : Nat} {sz : Nat → Nat} {t : Nat → Nat → Int32} {u : Nat → Nat → Nat → Int32} (H : ab_ok nc np pl sz t u) (hn : pl < 32) {c o : Nat} (hc : c < nc) (ho : o < nc) {x y tu : Int32} (hx : ab_co x) (hy : ab_co y) (ht : 0 ≤ tu ∧ tu < 8) (hr : ¬ gr_R pl (ab_c3 t) (ab_c4 t) o c) : ab_ok nc np (pl + 1) sz (ab_tq t pl (nI c) (nI o) x y tu) u := by
  have h34 := H.c34
  obtain ⟨a1, a2, a3, a4, a5, rk, a6⟩ := H
  refine ⟨a1, a2, by omega, fun p hp => ?_, fun i hi => ?_, ?_⟩
  · rw [ab_tq_c (by decide), ab_tq_c (by decide)]; exact a4 p hp
  · by_cases q : i = pl
    · subst q
      rw [ab_tq_3, ab_tq_4, ab_tq_5, ab_tq_6, ab_tq_7]
      exact ⟨⟨c, hc, rfl⟩, ⟨o, ho, rfl⟩, hx, hy, ht.1, ht.2⟩
    · rw [ab_tq_i q, ab_tq_i q, ab_tq_i q, ab_tq_i q, ab_tq_i q]; exact a5 i (by omega)
  · refine ⟨fun d => rk d + @ite Nat (gr_R pl (ab_c3 t) (ab_c4 t) d.toNatClampNeg c) (Classical.propDecidable _) (rk (nI o) + 1) 0, fun i hi => ?_⟩
    by_cases q : i = pl
    · subst q
      rw [ab_tq_3, ab_tq_4]
      show (_ + _ : Nat) < _ + _
      rw [nI_clamp (n := o) (by omega), nI_clamp (n := c) (by omega), if_neg hr, if_pos gr_R.rf]
      omega
    · rw [ab_tq_i q, ab_tq_i q]
      have hi2 : i < pl := by omega
      have r1 := a6 i hi2
      have r2 : gr_R pl (ab_c3 t) (ab_c4 t) (t 4 i).toNatClampNeg c → gr_R pl (ab_c3 t) (ab_c4 t) (t 3 i).toNatClampNeg c := fun w => gr_R.tr ((gr_R.rf (c := ab_c3 t i)).st hi2) w
      show (_ + _ : Nat) < _ + _
      by_cases w : gr_R pl (ab_c3 t) (ab_c4 t) (t 4 i).toNatClampNeg c
      · rw [if_pos w, if_pos (r2 w)]; omega
      · rw [if_neg w]; omega
theorem ab_ad.place {b np pl z : Nat} {pa ma : Nat → Nat} (H : ab_ad b np pl z pa ma) : ab_ad b np (pl + 1) (z + 1) pa (va_up ma pl z) := by
  obtain ⟨a0, a1, a2, a3, a4⟩ := H
  refine ⟨by omega, fun p hp => ⟨(a1 p hp).1, by have := (a1 p hp).2; omega⟩, fun i hi => ?_, a3, fun p i hp hi => ?_⟩
  · by_cases e : i = pl
    · rw [e, sv_us]; omega
    · rw [sv_un e]; have := a2 i (by omega); omega
  · by_cases e : i = pl
    · rw [e, sv_us]; exact Or.inr (a1 p hp).2
    · rw [sv_un e]; exact a4 p i hp (by omega)
theorem ab_Lay.place {G : sv_G} {h h1 : sv_h} {b z : Nat} {k : Int32} {nc np pl : Nat} {sz : Nat → Nat} {t : Nat → Nat → Int32} {u : Nat → Nat → Nat → Int32} {pa ma : Nat → Nat} {fh fg : Nat → Int32} {fm : Nat → Option Nat} (H : ab_Lay G h b k nc np pl sz t u pa ma) (A : ab_ad b np pl z pa ma) (c o x y tu : Int32) (hh : ∀ i, i < pl → fh i = t 3 i ∧ fg i = t 4 i ∧ fm i = some (ma i))
    (e1 : h1 (b + 1) = some (.inr (1, [.int k, .int (nI nc), .ref (b + 2), .int (nI np), .ref (b + 3), .ref (b + 4), .ref (b + 5), .int (nI (pl + 1)), .ref (b + 6), .ref (b + 7)]))) (e3 : ab_I G h1 (b + 3) 32 (upd fh pl c)) (e4 : ab_I G h1 (b + 4) 32 (upd fg pl o)) (e5 : ab_Q G h1 (b + 5) 3 32 (va_up fm pl (some z))) (e6 : h1 z = some (.inr (2, [.int (if tu < 4 then 0 else 1), .int (tu &&& 3), .int x, .int y])))
    (e : ∀ a, a = b + 2 ∨ a = b + 6 ∨ a = b + 7 → h1 a = h a) (e8 : ∀ a, b + 262 ≤ a → a < z → h1 a = h a) : ab_Lay G h1 b k nc np (pl + 1) sz (ab_tq t pl c o x y tu) u pa (va_up ma pl z) := by
  obtain ⟨p1, ⟨f2, p2, q2⟩, ⟨f3, p3, q3⟩, ⟨f4, p4, q4⟩, ⟨f5, p5, q5⟩, ⟨f6, p6⟩, ⟨f7, p7⟩, p8, p9⟩ := H
  obtain ⟨a0, a1, a2, a3, a4⟩ := A
  refine ⟨e1, ⟨f2, (e _ (by omega)).trans p2, q2⟩, ⟨_, e3, fun i hi => ?_⟩, ⟨_, e4, fun i hi => ?_⟩, ⟨_, e5, fun i hi => ?_⟩, ⟨f6, (e _ (by omega)).trans p6⟩, ⟨f7, (e _ (by omega)).trans p7⟩, fun p hp => ?_, fun i hi => ?_⟩
  · by_cases q : i = pl
    · rw [q, ab_tq_3]; simp [upd]
    · rw [ab_tq_i q]; simp only [upd, if_neg q]; exact (hh i (by omega)).1
  · by_cases q : i = pl
    · rw [q, ab_tq_4]; simp [upd]
    · rw [ab_tq_i q]; simp only [upd, if_neg q]; exact (hh i (by omega)).2.1
  · by_cases q : i = pl
    · rw [q, sv_us, sv_us]
    · rw [sv_un q, sv_un q]; exact (hh i (by omega)).2.2
  · rw [ab_tq_c (by decide), ab_tq_c (by decide), ab_tq_c (by decide)]
    exact (p8 p hp).kept (fun a q1 q2 => e8 a (by have := a1 p hp; omega) (by have := a1 p hp; omega))
  · by_cases q : i = pl
    · rw [q, sv_us, ab_tq_5, ab_tq_6, ab_tq_7]; exact e6
    · rw [sv_un q, ab_tq_i q, ab_tq_i q, ab_tq_i q]
      exact (e8 _ (a2 i (by omega)).1 (a2 i (by omega)).2).trans (p9 i (by omega))
set_option maxHeartbeats 4000000 in
set_option maxRecDepth 100000 in
theorem g_place (G : sv_G) (hl0 : G.1.stackTraces = false) (b : Nat) (c of : Int32) (x y : Int64) (tu : Int32) : OpI G mX12_place mX13_place b (b + 220) (b + 261) ["java/lang/IndexOutOfBoundsException", "java/lang/IllegalStateException", "java/lang/IllegalArgumentException"] [.int c, .int of, .long x, .long y, .int tu] (ab_Inv G b) (ab_Inv G b) := by
  refine OpI.of fun h z hi => ?_
  obtain ⟨k, nc, np, pl, sz, t, u, pa, ma, tn, tp, nr, r, ru, rd, nl, lr, la, fo, fl, nw, wr, lX, lq, lf, mf, fs, ⟨gok, gLay, gAd, gML⟩, ⟨gTp, gMTp⟩, ⟨gRu, gRd, gRl, gRr, gMR⟩, ⟨gLa, gFo, gFl, gLo, gMLa⟩, ⟨gWv, gMWv⟩, ⟨gDk, glq, gmf, glf⟩, ⟨gm, gfs⟩, ⟨gCk, gSc, go⟩⟩ := id hi
  have gz := gAd.1
  obtain ⟨f0, ho⟩ := id go
  obtain ⟨l1, ⟨fp, l2, l3⟩, ⟨fh, l4, l4'⟩, ⟨fg, l5, l5'⟩, ⟨fm, l6, l6'⟩, l7⟩ := id gLay
  have hnc : nc ≤ 16 := gok.1
  have hpl : pl ≤ 32 := gok.2.2.1
  have h34 := gok.c34
  by_cases hg : 0 ≤ c ∧ c < nI nc
  · obtain ⟨c1, hc1, rfl⟩ := sv_idx (by omega) hg
    by_cases hg2 : 0 ≤ of ∧ of < nI nc
    · obtain ⟨ob, hob, rfl⟩ := sv_idx (by omega) hg2
      by_cases hn : pl < 32
      · by_cases hc : ((¬ x < -10000 ∧ x ≤ 10000) ∧ (¬ y < -10000 ∧ y ≤ 10000) ∧ (0 ≤ tu ∧ tu < 8))
        · obtain ⟨⟨m0, n0, o0⟩, ⟨m1, n1, o1⟩, ⟨m2, n2, o2⟩, ⟨m3, n3, o3⟩, ⟨m4, n4, o4⟩, ⟨m5, n5, o5⟩, ⟨m6, n6, o6⟩, ⟨m7, n7, o7⟩, ⟨m8, n8, o8⟩, ⟨m9, n9, o9⟩, ⟨m10, n10, o10⟩⟩ := id gML
          obtain ⟨u0, s1⟩ := gSc.1
          intro h0 z0 hpt
          obtain ⟨rfl, rfl⟩ := hpt
          have hpp : ∀ i, i < pl → fh i = nI (ab_c3 t i) ∧ fg i = nI (ab_c4 t i) ∧ ab_c3 t i < nc ∧ ab_c4 t i < nc := fun i hi => ⟨(l4' i hi).trans (h34 i hi).1, (l5' i hi).trans (h34 i hi).2.1, (h34 i hi).2.2⟩
          have hpm : ∀ i, i < pl → m6 i = nI (ab_c3 t i) ∧ m7 i = nI (ab_c4 t i) ∧ ab_c3 t i < nc ∧ ab_c4 t i < nc := fun i hi => ⟨(o6 i hi).trans (h34 i hi).1, (o7 i hi).trans (h34 i hi).2.1, (h34 i hi).2.2⟩
          refine ⟨_, _, c_place G hl0 h0 z0 b nc pl c1 ob x y tu _ _ _ _ _ _ _ _ _ _ _ _ gDk.1 k (nI np) l1 hc1 hob hnc hpl (ab_c3 t) (ab_c4 t) fh fg fm l4 l5 l6 hpp gz hn hc.1 hc.2.1 hc.2.2, fun v h1 z1 hq => ?_, fun E h1 z1 hq => hq.elim⟩
          rcases hq with ⟨q1, rfl, rfl, rfl⟩ | ⟨q1, rfl, rfl, s2, s3, s4, s5, s6, s7⟩
          · refine ⟨_, rfl, ⟨f0, ho⟩, by omega, ⟨_, gm⟩, fun h2 g e1 e2 e3 => ?_⟩
            have lk : ∀ a, a ≠ b + 261 → h2 a = h1 a := e3
            refine ⟨_, m_place G h2 z1 b fs k nc np pl tn nr nl lq mf nw gfs ((lk _ (by omega)).trans gm) c1 ob x y tu hc1 hob hnc hpl (ab_c3 t) (ab_c4 t) m6 m7 m10 u0 m8 m9 ((lk _ (by omega)).trans n6) ((lk _ (by omega)).trans n7) ((lk _ (by omega)).trans n8) ((lk _ (by omega)).trans n9) ((lk _ (by omega)).trans n10) ((lk _ (by omega)).trans s1) hpm hn hc.1 hc.2.1 hc.2.2, fun v2 h3 z3 hq2 => ?_⟩
            obtain ⟨rfl, ⟨uf, hu⟩, hq2⟩ := hq2
            rcases hq2 with ⟨_, rfl, r2, r3⟩ | ⟨r1, _⟩
            · have e6 : ∀ a, a ≠ b + 220 → a ≠ b + 243 → a ≠ b + 261 → h3 a = h1 a := fun a q1 q2 q3 => (r3 a q1 q2).trans (lk a q3)
              refine ⟨rfl, ⟨_, r2, by rw [List.length_set]; exact gfs.1, sv_ls (by rw [gfs.1]; decide)⟩, (r3 _ (by omega) (by omega)).trans e1, ?_⟩
              exact ab_Inv_lay2 gTp gMTp gRu gRd gRl gRr gMR gLa gFo gFl gLo gMLa gWv gMWv gDk glq gmf glf gCk gok (gLay.kept gAd (fun a q1 q2 => e6 a (by omega) (by omega) (by omega)) (fun a q1 q2 => e6 a (by omega) (by omega) (by omega))) gAd (gML.kept (fun a q1 q2 => e6 a (by omega) (by omega) (by omega))) (gSc.s_under hu (fun a q1 q2 q3 => e6 a (by omega) q3 (by omega))) (fun a q1 q2 q3 q4 => e6 a q3 (by omega) (by omega)) r2 (gfs.code _) ⟨_, (r3 _ (by omega) (by omega)).trans e1⟩
            · exact absurd q1 r1
          · refine ⟨_, rfl, ⟨f0, (s7 _ (by omega) (by omega) (by omega) (by omega) (by omega)).trans ho⟩, by omega, ⟨_, (s7 _ (by omega) (by omega) (by omega) (by omega) (by omega)).trans gm⟩, fun h2 g e1 e2 e3 => ?_⟩
            have lk : ∀ a, b + 8 ≤ a → a < z0 → a ≠ b + 261 → h2 a = h0 a := fun a q1 q2 q3 => (e3 a q3).trans (s7 a q2 (by omega) (by omega) (by omega) (by omega))
            refine ⟨_, m_place G h2 (z0 + 1) b fs k nc np pl tn nr nl lq mf nw gfs ((lk _ (by omega) (by omega) (by omega)).trans gm) c1 ob x y tu hc1 hob hnc hpl (ab_c3 t) (ab_c4 t) m6 m7 m10 u0 m8 m9 ((lk _ (by omega) (by omega) (by omega)).trans n6) ((lk _ (by omega) (by omega) (by omega)).trans n7) ((lk _ (by omega) (by omega) (by omega)).trans n8) ((lk _ (by omega) (by omega) (by omega)).trans n9) ((lk _ (by omega) (by omega) (by omega)).trans n10) ((lk _ (by omega) (by omega) (by omega)).trans s1) hpm hn hc.1 hc.2.1 hc.2.2, fun v2 h3 z3 hq2 => ?_⟩
            obtain ⟨rfl, ⟨uf, hu⟩, hq2⟩ := hq2
            rcases hq2 with ⟨r1, _⟩ | ⟨_, rfl, r2, r3, r4, r5, r6, r7, r8⟩
            · exact absurd r1 q1
            · have hk3 : ∀ a, (a < b + 220 ∨ a = b + 221 ∨ a = b + 222 ∨ a = b + 223 ∨ a = b + 224 ∨ a = b + 225 ∨ a = b + 226 ∨ (b + 232 ≤ a ∧ a ≠ b + 243)) → a ≠ b + 261 → h3 a = h1 a := fun a q1 q2 => (r8 a (by omega) (by omega) (by omega)).trans (e3 a q2)
              have e6 : ∀ a, (a = b ∨ a = b + 2 ∨ a = b + 6 ∨ a = b + 7 ∨ (b + 8 ≤ a ∧ a < b + 220) ∨ (b + 221 ≤ a ∧ a < b + 227) ∨ (b + 232 ≤ a ∧ a < z0 ∧ a ≠ b + 243)) → a ≠ b + 261 → h3 a = h0 a := fun a q1 q2 => (hk3 a (by omega) q2).trans (s7 a (by omega) (by omega) (by omega) (by omega) (by omega))
              refine ⟨rfl, ⟨_, r2, by rw [List.length_set, List.length_set]; exact gfs.1, (List.getElem?_set_ne (by decide)).trans (sv_ls (by rw [gfs.1]; decide))⟩, (r8 _ (by omega) (by omega) (by omega)).trans e1, ?_⟩
              have gfs' : ab_fs b k nc np (pl + 1) tn nr nl lq mf nw ((fs.set 0 (.int 0)).set 10 (.int (nI pl + 1))) := by rw [nI_1]; exact (gfs.code (.int 0)).places (pl + 1)
              have gLay' : ab_Lay G h3 b k nc np (pl + 1) sz (ab_tq t pl (nI c1) (nI ob) x.toInt32 y.toInt32 tu) u pa (va_up ma pl z0) := by
                refine gLay.place gAd (nI c1) (nI ob) x.toInt32 y.toInt32 tu (fun i hi => ⟨l4' i hi, l5' i hi, l6' i hi⟩) ?_ ((hk3 _ (by omega) (by omega)).trans s3) ((hk3 _ (by omega) (by omega)).trans s4) ((hk3 _ (by omega) (by omega)).trans s5) ((hk3 _ (by omega) (by omega)).trans s6) (fun a q => e6 a (by omega) (by omega)) (fun a q1 q2 => e6 a (by omega) (by omega))
                rw [← nI_1]
                exact (hk3 _ (by omega) (by omega)).trans s2
              have gML' : ab_MLay G h3 b nc np (pl + 1) sz (ab_tq t pl (nI c1) (nI ob) x.toInt32 y.toInt32 tu) u := ⟨⟨m0, (e6 _ (by omega) (by omega)).trans n0, fun p hp => by rw [ab_tq_c (by decide)]; exact o0 p hp⟩, ⟨m1, (e6 _ (by omega) (by omega)).trans n1, fun p hp => by rw [ab_tq_c (by decide)]; exact o1 p hp⟩, ⟨m2, (e6 _ (by omega) (by omega)).trans n2, fun p hp => by rw [ab_tq_c (by decide)]; exact o2 p hp⟩, ⟨m3, (e6 _ (by omega) (by omega)).trans n3, o3⟩, ⟨m4, (e6 _ (by omega) (by omega)).trans n4, o4⟩, ⟨m5, (e6 _ (by omega) (by omega)).trans n5, o5⟩, ⟨_, r3, fun i hi => by
            by_cases q : i = pl
            · rw [q, ab_tq_3]; simp [upd]
            · rw [ab_tq_i q]; simp only [upd, if_neg q]; exact o6 i (by omega)⟩, ⟨_, r4, fun i hi => by
            by_cases q : i = pl
            · rw [q, ab_tq_4]; simp [upd]
            · rw [ab_tq_i q]; simp only [upd, if_neg q]; exact o7 i (by omega)⟩, ⟨_, r5, fun i hi => by
            by_cases q : i = pl
            · rw [q, ab_tq_5, sv_updL_eq]; exact (sv_cr hc.1).1.symm
            · rw [ab_tq_i q, sv_updL_ne q]; exact o8 i (by omega)⟩, ⟨_, r6, fun i hi => by
            by_cases q : i = pl
            · rw [q, ab_tq_6, sv_updL_eq]; exact (sv_cr hc.2.1).1.symm
            · rw [ab_tq_i q, sv_updL_ne q]; exact o9 i (by omega)⟩, ⟨_, r7, fun i hi => by
            by_cases q : i = pl
            · rw [q, ab_tq_7]; simp [upd]
            · rw [ab_tq_i q]; simp only [upd, if_neg q]; exact o10 i (by omega)⟩⟩
              exact ab_Inv_lay2 gTp gMTp gRu gRd gRl gRr gMR gLa gFo gFl gLo gMLa gWv gMWv gDk glq gmf glf gCk (gok.place hn hc1 hob (sv_cr hc.1).2 (sv_cr hc.2.1).2 hc.2.2 q1) gLay' gAd.place gML' (gSc.s_under hu (fun a q1 q2 q3 => e6 a (by omega) (by omega))) (fun a q1 q2 q3 q4 => e6 a (by omega) (by omega)) r2 gfs' ⟨_, (r8 _ (by omega) (by omega) (by omega)).trans e1⟩
        · exact at_refI 2 hi rfl (c_place_a G hl0 h z b nc pl c1 ob x y tu _ _ _ _ _ _ _ _ _ _ _ _ gDk.1 k (nI np) l1 hc1 hob hnc hpl hn hc) gm gfs.1 (fun z1 => m_place_a G h z1 b fs k nc np pl tn nr nl lq mf nw gfs gm c1 ob x y tu hc1 hob hnc hpl hn hc)
      · exact at_refI 1 hi rfl (c_place_f G hl0 h z b nc pl c1 ob x y tu _ _ _ _ _ _ _ _ _ _ _ _ gDk.1 k (nI np) l1 hc1 hob hnc hpl hn) gm gfs.1 (fun z1 => m_place_f G h z1 b fs k nc np pl tn nr nl lq mf nw gfs gm c1 ob x y tu hc1 hob hnc hpl (by omega))
    · exact at_refI 0 hi rfl (c_place_o2 G hl0 h z b nc pl c1 x y of tu _ _ _ _ _ _ _ _ _ _ _ _ gDk.1 k (nI np) l1 hc1 hnc hg2) gm gfs.1 (fun z1 => m_place_o2 G h z1 b fs k nc np pl tn nr nl lq mf nw gfs gm c1 x y of tu hc1 hnc hg2)
  · exact at_refI 0 hi rfl (c_place_o G hl0 h z b _ _ _ _ _ _ _ _ _ _ _ _ _ gDk.1 c of tu x y _ _ _ _ _ _ _ _ _ _ l1 hg) gm gfs.1 (fun z1 => m_place_o G _ _ _ _ gfs.1 gm c of tu x y _ gfs.f_cells hg)
