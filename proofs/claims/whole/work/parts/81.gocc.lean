theorem ab_Lay.held {G : sv_G} {h h1 : sv_h} {b z : Nat} {k : Int32} {nc np pl : Nat} {sz : Nat → Nat} {t : Nat → Nat → Int32} {u : Nat → Nat → Nat → Int32} {pa ma : Nat → Nat} {f g : Nat → Int32} (H : ab_Lay G h b k nc np pl sz t u pa ma) (A : ab_ad b np pl z pa ma) (e6 : ab_I G h1 (b + 6) 16 f) (e7 : ab_I G h1 (b + 7) 16 g) (e : ∀ a, b + 1 ≤ a → a < b + 6 → h1 a = h a) (e2 : ∀ a, b + 262 ≤ a → a < z → h1 a = h a) : ab_Lay G h1 b k nc np pl sz t u pa ma := by
  obtain ⟨p1, ⟨f2, p2, q2⟩, ⟨f3, p3, q3⟩, ⟨f4, p4, q4⟩, ⟨f5, p5, q5⟩, p6, p7, p8, p9⟩ := H
  obtain ⟨a0, a1, a2, a3, a4⟩ := A
  exact ⟨(e _ (by omega) (by omega)).trans p1, ⟨f2, (e _ (by omega) (by omega)).trans p2, q2⟩, ⟨f3, (e _ (by omega) (by omega)).trans p3, q3⟩, ⟨f4, (e _ (by omega) (by omega)).trans p4, q4⟩, ⟨f5, (e _ (by omega) (by omega)).trans p5, q5⟩, ⟨f, e6⟩, ⟨g, e7⟩,
    fun p hp => (p8 p hp).kept (fun a q1 q2 => e2 a (by have := a1 p hp; omega) (by have := a1 p hp; omega)),
    fun i hi => (e2 _ (a2 i hi).1 (a2 i hi).2).trans (p9 i hi)⟩
/-- polygon p is right -/
noncomputable def ab_R (sz : Nat → Nat) (u : Nat → Nat → Nat → Int32) (p : Nat) : Bool := @decide (gm_right (sz p) (u 0 p) (u 1 p)) (Classical.propDecidable _)
theorem ab_R_t {sz : Nat → Nat} {u : Nat → Nat → Nat → Int32} {p : Nat} : ab_R sz u p = true ↔ gm_right (sz p) (u 0 p) (u 1 p) := by
  unfold ab_R
  exact @decide_eq_true_iff _ (Classical.propDecidable _)
def ab_c0 (t : Nat → Nat → Int32) (p : Nat) : Nat := (t 0 p).toNatClampNeg
theorem ab_ok.c0 {nc np pl : Nat} {sz : Nat → Nat} {t : Nat → Nat → Int32} {u : Nat → Nat → Nat → Int32} (H : ab_ok nc np pl sz t u) : ∀ p, p < np → t 0 p = nI (ab_c0 t p) ∧ ab_c0 t p < nc := by
  intro p hp
  have hn := H.1
  obtain ⟨_, ⟨c, h1, h2⟩, _⟩ := H.2.2.2.1 p hp
  have e1 : ab_c0 t p = c := by unfold ab_c0; rw [h2, nI_clamp (by omega)]
  rw [e1]
  exact ⟨h2, h1⟩
theorem ab_ok.rank {nc np pl : Nat} {sz : Nat → Nat} {t : Nat → Nat → Int32} {u : Nat → Nat → Nat → Int32} (H : ab_ok nc np pl sz t u) : ∃ rk : Nat → Nat, (∀ i, i < pl → rk (ab_c4 t i) < rk (ab_c3 t i)) ∧ ∀ c, c < nc → rk c < nc := by
  have h34 := H.c34
  obtain ⟨_, _, _, _, _, rk, hr⟩ := H
  refine oc_rank (fun c => rk (nI c)) (fun i hi => ?_) (fun i hi => (h34 i hi).2.2.2)
  show rk (nI (ab_c4 t i)) < rk (nI (ab_c3 t i))
  rw [← (h34 i hi).1, ← (h34 i hi).2.1]
  exact hr i hi
/-- the class's polygons, for the tally -/
theorem ab_Lay.pol {G : sv_G} {h : sv_h} {b z : Nat} {k : Int32} {nc np pl : Nat} {sz : Nat → Nat} {t : Nat → Nat → Int32} {u : Nat → Nat → Nat → Int32} {pa ma : Nat → Nat} {fq : Nat → Option Nat} (H : ab_Lay G h b k nc np pl sz t u pa ma) (A : ab_ad b np pl z pa ma) (K : ab_ok nc np pl sz t u) (hf : ∀ p, p < np → fq p = some (pa p)) : ∀ p, p < np → fq p = some (pa p) ∧ ab_c0 t p < nc ∧ pa p ≠ b + 6 ∧ pa p ≠ b + 7 ∧ ∃ (l0 n0 vo ar : Int32) (x1 x2 x3 x4 : Nat), h (pa p) = some (.inr (3, [.int (nI (ab_c0 t p)), .int l0, .ref x1, .ref x2, .int n0, .int vo, .int (if ab_R sz u p = true then 1 else 0), .int ar, .ref x3, .ref x4])) := by
  intro p hp
  have a1 := A.2.1 p hp
  obtain ⟨rt, ar, fx, fy, ff, fo, w1, w2, w3, w4, w5, w6, w7⟩ := H.2.2.2.2.2.2.2.1 p hp
  refine ⟨hf p hp, (K.c0 p hp).2, by omega, by omega, t 1 p, nI (sz p), t 2 p, ar, pa p + 1, pa p + 2, pa p + 3, pa p + 4, ?_⟩
  rw [← (K.c0 p hp).1]
  have e : (if ab_R sz u p = true then 1 else 0 : Int32) = rt := by
    by_cases q : gm_right (sz p) (u 0 p) (u 1 p)
    · rw [if_pos (ab_R_t.mpr q), (w7.1 q).1]
    · rw [if_neg (fun r => q (ab_R_t.mp r)), w7.2 q]
  rw [e]
  exact w1
set_option maxHeartbeats 4000000 in
set_option maxRecDepth 100000 in
theorem g_occurrences (G : sv_G) (hl0 : G.1.stackTraces = false) (b : Nat) (c : Int32) : OpI G mX12_occurrences mX13_occurrences b (b + 220) (b + 261) ["java/lang/IndexOutOfBoundsException", "java/lang/UnsupportedOperationException"] [.int c] (ab_Inv G b) (ab_Inv G b) := by
  refine OpI.of fun h z hi => ?_
  obtain ⟨k, nc, np, pl, sz, t, u, pa, ma, tn, tp, nr, r, ru, rd, nl, lr, la, fo, fl, nw, wr, lX, lq, lf, mf, fs, ⟨gok, gLay, gAd, gML⟩, ⟨gTp, gMTp⟩, ⟨gRu, gRd, gRl, gRr, gMR⟩, ⟨gLa, gFo, gFl, gLo, gMLa⟩, ⟨gWv, gMWv⟩, ⟨gDk, glq, gmf, glf⟩, ⟨gm, gfs⟩, ⟨gCk, gSc, go⟩⟩ := id hi
  have gz := gAd.1
  obtain ⟨f0, ho⟩ := id go
  obtain ⟨l1, ⟨fp, l2, l3⟩, ⟨fh, l4, l4'⟩, ⟨fg, l5, l5'⟩, l6, ⟨f6, l7⟩, ⟨f7, l8⟩, l9, l10⟩ := id gLay
  have hnc : nc ≤ 16 := gok.1
  have hnp : np ≤ 64 := gok.2.1
  have hpl : pl ≤ 32 := gok.2.2.1
  have h34 := gok.c34
  by_cases hg : 0 ≤ c ∧ c < nI nc
  · obtain ⟨cl, hcl, rfl⟩ := sv_idx (by omega) hg
    obtain ⟨⟨m0, n0, o0⟩, ⟨m1, n1, o1⟩, ⟨m2, n2, o2⟩, ⟨m3, n3, o3⟩, ⟨m4, n4, o4⟩, ⟨m5, n5, o5⟩, ⟨m6, n6, o6⟩, ⟨m7, n7, o7⟩, ⟨m8, n8, o8⟩, ⟨m9, n9, o9⟩, ⟨m10, n10, o10⟩⟩ := id gML
    obtain ⟨fz, sz8⟩ := gSc.2.2.2.2.2.1
    obtain ⟨rk, hrk, hrn⟩ := gok.rank
    have hpp : ∀ i, i < pl → fh i = nI (ab_c3 t i) ∧ fg i = nI (ab_c4 t i) ∧ ab_c3 t i < nc ∧ ab_c4 t i < nc := fun i hi => ⟨(l4' i hi).trans (h34 i hi).1, (l5' i hi).trans (h34 i hi).2.1, (h34 i hi).2.2⟩
    have hpm : ∀ i, i < pl → m6 i = nI (ab_c3 t i) ∧ m7 i = nI (ab_c4 t i) ∧ ab_c3 t i < nc ∧ ab_c4 t i < nc := fun i hi => ⟨(o6 i hi).trans (h34 i hi).1, (o7 i hi).trans (h34 i hi).2.1, (h34 i hi).2.2⟩
    have hpo : ∀ p, p < np → m0 p = nI (ab_c0 t p) ∧ ab_c0 t p < nc ∧ m3 p = nI (sz p) ∧ sz p ≤ 16 ∧ (∀ i, i < sz p → m4 (16 * p + i) = (u 0 p i).toInt64) ∧ (∀ i, i < sz p → m5 (16 * p + i) = (u 1 p i).toInt64) ∧ (ab_R sz u p = true ↔ gm_mr (sz p) (u 0 p) (u 1 p)) := fun p hp => ⟨(o0 p hp).trans (gok.c0 p hp).1, (gok.c0 p hp).2, o3 p hp, (gok.2.2.2.1 p hp).1, fun i hi => o4 p i hp hi, fun i hi => o5 p i hp hi, ab_R_t.trans (gm_mr_iff (gok.2.2.2.1 p hp).2.2.2.2.2).symm⟩
    have hNN : oc_n np pl (ab_R sz u) (ab_c0 t) (ab_c3 t) (ab_c4 t) 16 cl = (oc_n np pl (ab_R sz u) (ab_c0 t) (ab_c3 t) (ab_c4 t) nc cl) := oc_rk hrk nc cl (hrn cl hcl) 16 hnc
    intro h0 z0 hpt
    obtain ⟨rfl, rfl⟩ := hpt
    refine ⟨_, _, (c_occurrences G hl0 h0 z0 b nc np pl k (ab_R sz u) (ab_c0 t) (ab_c3 t) (ab_c4 t) pa fp fh fg l1 l2 (gLay.pol gAd gok l3) l4 l5 hnc hnp hpl hpp cl hcl f6 f7 l7 l8 _ _ _ _ _ _ _ _ _ _ _ _ gDk.1).mono (fun _ _ _ _ q => q) (fun E h1 z1 q1 q2 => And.intro q1 q2), fun v h1 z1 hq => ?_, fun E h1 z1 hq => ?_⟩
    · obtain ⟨rfl, q1, rfl, ⟨he1, g1, u1, u3⟩, u4⟩ := hq
      refine ⟨_, rfl, ⟨f0, (u4 _ (by omega) (by omega)).trans ho⟩, by omega, ⟨_, (u4 _ (by omega) (by omega)).trans gm⟩, fun h2 g e1 e2 e3 => ?_⟩
      have lk : ∀ a, a ≠ b + 6 → a ≠ b + 7 → a ≠ b + 261 → h2 a = h0 a := fun a q1 q2 q3 => (e3 a q3).trans (u4 a q1 q2)
      refine ⟨_, m_occurrences G h2 z1 b nc np pl fs (ab_R sz u) (ab_c0 t) (ab_c3 t) (ab_c4 t) sz u m0 m3 m6 m7 m4 m5 gfs.1 ((lk _ (by omega) (by omega) (by omega)).trans gm) gfs.f_cells gfs.f_polygons gfs.f_places gfs.f_owner gfs.f_size gfs.f_px gfs.f_py gfs.f_placeIn gfs.f_placeOf gfs.f_sizes ((lk _ (by omega) (by omega) (by omega)).trans n0) ((lk _ (by omega) (by omega) (by omega)).trans n3) ((lk _ (by omega) (by omega) (by omega)).trans n4) ((lk _ (by omega) (by omega) (by omega)).trans n5) ((lk _ (by omega) (by omega) (by omega)).trans n6) ((lk _ (by omega) (by omega) (by omega)).trans n7) hnc hnp hpl hpm hpo rk hrk hrn cl hcl fz ((lk _ (by omega) (by omega) (by omega)).trans sz8), fun v2 h3 z3 hq2 => ?_⟩
      obtain ⟨rfl, ⟨f1, r1⟩, hq2, r4⟩ := hq2
      rw [hNN] at hq2
      rcases hq2 with ⟨r2, rfl, r3⟩ | ⟨r2, _⟩
      · have e6 : ∀ a, a ≠ b + 6 → a ≠ b + 7 → a ≠ b + 220 → a ≠ b + 248 → a ≠ b + 261 → h3 a = h0 a := fun a q1 q2 q3 q4 q5 => (r4 a q3 q4).trans (lk a q1 q2 q5)
        refine ⟨by congr 2; congr 1; omega, ⟨_, r3, by rw [List.length_set, List.length_set]; exact gfs.1, sv_ls (by rw [List.length_set, gfs.1]; decide)⟩, (r4 _ (by omega) (by omega)).trans e1, ?_⟩
        exact ab_Inv_lay2 gTp gMTp gRu gRd gRl gRr gMR gLa gFo gFl gLo gMLa gWv gMWv gDk glq gmf glf gCk gok (gLay.held gAd ((r4 _ (by omega) (by omega)).trans ((e3 _ (by omega)).trans u1)) ((r4 _ (by omega) (by omega)).trans ((e3 _ (by omega)).trans u3)) (fun a q1 q2 => e6 a (by omega) (by omega) (by omega) (by omega) (by omega)) (fun a q1 q2 => e6 a (by omega) (by omega) (by omega) (by omega) (by omega))) gAd (gML.kept (fun a q1 q2 => e6 a (by omega) (by omega) (by omega) (by omega) (by omega))) (gSc.s_sizes r1 (fun a q1 q2 q3 => e6 a (by omega) (by omega) (by omega) q3 (by omega))) (fun a q1 q2 q3 q4 => e6 a (by omega) (by omega) q3 (by omega) (by omega)) r3 ((gfs.code _).code _) ⟨_, (r4 _ (by omega) (by omega)).trans e1⟩
      · exact absurd q1 (by omega)
    · obtain ⟨hz, rfl, q1, ⟨he1, g1, u1, u3⟩, u4⟩ := hq
      refine ⟨1, rfl, ⟨fs, (u4 _ (by omega) (by omega)).trans gm⟩, _, m_occurrences G h1 z1 b nc np pl fs (ab_R sz u) (ab_c0 t) (ab_c3 t) (ab_c4 t) sz u m0 m3 m6 m7 m4 m5 gfs.1 ((u4 _ (by omega) (by omega)).trans gm) gfs.f_cells gfs.f_polygons gfs.f_places gfs.f_owner gfs.f_size gfs.f_px gfs.f_py gfs.f_placeIn gfs.f_placeOf gfs.f_sizes ((u4 _ (by omega) (by omega)).trans n0) ((u4 _ (by omega) (by omega)).trans n3) ((u4 _ (by omega) (by omega)).trans n4) ((u4 _ (by omega) (by omega)).trans n5) ((u4 _ (by omega) (by omega)).trans n6) ((u4 _ (by omega) (by omega)).trans n7) hnc hnp hpl hpm hpo rk hrk hrn cl hcl fz ((u4 _ (by omega) (by omega)).trans sz8), fun v2 h3 z3 hq2 => ?_⟩
      obtain ⟨rfl, ⟨f1, r1⟩, hq2, r4⟩ := hq2
      rw [hNN] at hq2
      rcases hq2 with ⟨r2, _⟩ | ⟨r2, rfl, r3⟩
      · exact absurd r2 (by omega)
      · have e6 : ∀ a, a ≠ b + 6 → a ≠ b + 7 → a ≠ b + 220 → a ≠ b + 248 → h3 a = h0 a := fun a q1 q2 q3 q4 => (r4 a q3 q4).trans (u4 a q1 q2)
        refine ⟨⟨0, rfl⟩, ⟨_, r3, by rw [List.length_set, List.length_set]; exact gfs.1, sv_ls (by rw [List.length_set, gfs.1]; decide)⟩, ?_⟩
        exact ab_Inv_lay2 gTp gMTp gRu gRd gRl gRr gMR gLa gFo gFl gLo gMLa gWv gMWv gDk glq gmf glf gCk gok (gLay.held gAd ((r4 _ (by omega) (by omega)).trans u1) ((r4 _ (by omega) (by omega)).trans u3) (fun a q1 q2 => e6 a (by omega) (by omega) (by omega) (by omega)) (fun a q1 q2 => e6 a (by omega) (by omega) (by omega) (by omega))) (gAd.mono hz) (gML.kept (fun a q1 q2 => e6 a (by omega) (by omega) (by omega) (by omega))) (gSc.s_sizes r1 (fun a q1 q2 q3 => e6 a (by omega) (by omega) (by omega) q3)) (fun a q1 q2 q3 q4 => e6 a (by omega) (by omega) q3 (by omega)) r3 ((gfs.code _).code _) ⟨_, (e6 _ (by omega) (by omega) (by omega) (by omega)).trans ho⟩
  · exact at_refI 0 hi rfl (c_occurrences_o G hl0 h z b _ _ _ _ _ _ _ _ _ _ _ _ _ gDk.1 c _ _ _ _ _ _ _ _ _ _ l1 hg) gm gfs.1 (fun z1 => m_occurrences_o G _ _ _ _ gfs.1 gm c _ gfs.f_cells hg)
