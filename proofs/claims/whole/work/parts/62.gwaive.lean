theorem sv_wr {f wr ds : Nat → Int64} {nw : Nat} {c : Nat → Nat} (H : ∀ k1, k1 < nw + 1 → ∀ j, j < 8 → f (8 * k1 + c j) = (if k1 < nw then wr (8 * k1 + j) else ds j)) : ∀ k1, k1 < nw + 1 → ∀ j, j < 8 → f (8 * k1 + c j) = (fun i => if i < 8 * nw then wr i else ds (i - 8 * nw)) (8 * k1 + j) := by
  intro k1 h1 j hj
  rw [H k1 h1 j hj]
  show _ = (if 8 * k1 + j < 8 * nw then wr (8 * k1 + j) else ds (8 * k1 + j - 8 * nw))
  by_cases q : k1 < nw
  · rw [if_pos q, if_pos (by omega)]
  · obtain rfl : k1 = nw := by omega
    rw [if_neg q, if_neg (by omega), Nat.add_sub_cancel_left]
theorem g_waive (G : sv_G) (hl0 : G.1.stackTraces = false) (b : Nat) (c : Int32) : OpZ G mX12_waive mX13_waive b (b + 220) (b + 261) ["java/lang/IndexOutOfBoundsException", "java/lang/IllegalStateException"] [.int c] (ab_Inv G b) (ab_Inv G b) := by
  refine OpZ.of fun h z hi => ?_
  obtain ⟨k, nc, np, pl, sz, t, u, pa, ma, tn, tp, nr, r, ru, rd, nl, lr, la, fo, fl, nw, wr, lX, lq, lf, mf, fs, ⟨gok, gLay, gAd, gML⟩, ⟨gTp, gMTp⟩, ⟨gRu, gRd, gRl, gRr, gMR⟩, ⟨gLa, gFo, gFl, gLo, gMLa⟩, ⟨gWv, gMWv⟩, ⟨gDk, glq, gmf, glf⟩, ⟨gm, gfs⟩, ⟨gCk, gSc, go⟩⟩ := id hi
  obtain ⟨gru, i1, i2, i3, i4, i5, i6, i7, i8, i9, gla, gfo, gfl⟩ := id gDk.2
  have gz := gAd.1
  obtain ⟨f0, ho⟩ := id go
  obtain ⟨hnl, xx, ro, od, st, us, ov, hm0, w, ⟨y0, y1, y2, y3, y4⟩, y5⟩ := id gLa
  obtain ⟨fm, y6, y7⟩ := id gMLa
  by_cases hg : 0 ≤ c ∧ c < nI nl
  · obtain ⟨k0, hk, rfl⟩ := sv_idx (by omega) hg
    obtain rfl : lX = lq := glq (by omega)
    obtain ⟨hn, s1, ⟨rf, s2, s3⟩, ⟨f8, s4⟩⟩ := id gWv
    obtain ⟨wf, s5, s6⟩ := id gMWv
    intro h0 z0 hpt
    obtain ⟨rfl, rfl⟩ := hpt
    refine ⟨_, _, (c_waive G hl0 h0 z0 b nw la nl k0 lX lr wr f8 s1 gLa hk (by omega) (by omega) s4 rf s2 s3 hn _ _ _ _ _ _ _ _ _ _ gDk.1).mono (fun _ _ _ _ q => q) (fun E h1 z1 q1 q2 => And.intro q1 q2), fun v h1 z1 hq => ?_, fun E h1 z1 hq => ?_⟩
    · obtain ⟨rfl, hq⟩ := hq
      rcases hq with ⟨cv, rfl, ⟨f1, hf1⟩, hfr⟩ | ⟨ncv, hlt, rfl, ⟨f1, hf1⟩, w1, ⟨f2, w2, w3⟩, hfr⟩
      · refine ⟨0, rfl, ⟨f0, (hfr _ (by omega)).trans ho⟩, by omega, ⟨_, (hfr _ (by omega)).trans gm⟩, fun h2 g e1 e2 e3 => ?_⟩
        have hm2 : h2 (b + 220) = some (.inr (11, fs)) := (e3 _ (by omega)).trans ((hfr _ (by omega)).trans gm)
        have ht2 := (e3 (b + 241) (by omega)).trans ((hfr _ (by omega)).trans y6)
        have hw2 := (e3 (b + 242) (by omega)).trans ((hfr _ (by omega)).trans s5)
        refine ⟨_, m_waive G h2 z1 b fs k nc np pl tn nr nl lX mf nw gfs hm2 k0 hk fm wf wr lr ht2 hw2 y7 s6 hnl hn, fun v2 h3 z3 hq2 => ?_⟩
        obtain ⟨rfl, F, r1, hq2⟩ := hq2
        rcases hq2 with ⟨r2, r3, r4, r5, r6⟩ | ⟨r2, r3, r4⟩ | ⟨r2, r3, r4⟩
        · have e : ∀ a, a ≠ b + 182 → a ≠ b + 220 → a ≠ b + 261 → h3 a = h0 a := fun a q1 q2 q3 => (r6 a q2).trans ((e3 a q3).trans (hfr a q1))
          refine ⟨r3, ⟨F, r1, r5.1, r4⟩, (r6 _ (by omega)).trans e1, ?_⟩
          exact ⟨k, nc, np, pl, sz, t, u, pa, ma, tn, tp, nr, r, ru, rd, nl, lr, la, fo, fl, nw, wr, lX, lX, lf, mf, F, ⟨gok, gLay.kept gAd (fun a q1 q2 => e a (by omega) (by omega) (by omega)) (fun a q1 q2 => e a (by omega) (by omega) (by omega)), gAd, gML.kept (fun a q1 q2 => e a (by omega) (by omega) (by omega))⟩, ⟨gTp.kept (fun a q1 q2 => e a (by omega) (by omega) (by omega)), gMTp.kept (fun a q1 q2 => e a (by omega) (by omega) (by omega))⟩, ⟨gRu.kept (by omega) (fun a q1 q2 => e a (by omega) (by omega) (by omega)), gRd.kept (by omega) (fun a q1 q2 => e a (by omega) (by omega) (by omega)), gRl.kept (fun a q1 q2 => e a (by omega) (by omega) (by omega)), gRr.kept (fun a q1 q2 => e a (by omega) (by omega) (by omega)), gMR.kept (fun a q1 q2 => e a (by omega) (by omega) (by omega))⟩, ⟨gLa.kept (fun a q1 q2 => e a (by omega) (by omega) (by omega)), gFo.kept (fun a q1 q2 => e a (by omega) (by omega) (by omega)), gFl.kept (fun a q1 q2 => e a (by omega) (by omega) (by omega)), gLo.kept (fun a q1 q2 => e a (by omega) (by omega) (by omega)), gMLa.kept (fun a q1 q2 => e a (by omega) (by omega) (by omega))⟩, ⟨⟨hn, (e _ (by omega) (by omega) (by omega)).trans s1, ⟨rf, (e _ (by omega) (by omega) (by omega)).trans s2, s3⟩, ⟨f1, (r6 _ (by omega)).trans ((e3 _ (by omega)).trans hf1)⟩⟩, gMWv.kept (fun a q1 q2 => e a (by omega) (by omega) (by omega))⟩, ⟨gDk.kept (fun a q1 q2 => e a (by omega) (by omega) (by omega)), glq, gmf, glf⟩, ⟨r1, r5⟩, ⟨gCk.kept (fun a q1 q2 => e a (by omega) (by omega) (by omega)), gSc.kept (fun a q1 q2 => e a (by omega) (by omega) (by omega)), ⟨_, (r6 _ (by omega)).trans e1⟩⟩⟩
        · exact absurd cv r2
        · exact absurd cv r2
      · refine ⟨1, rfl, ⟨f0, (hfr _ (by omega) (by omega) (by omega)).trans ho⟩, by omega, ⟨_, (hfr _ (by omega) (by omega) (by omega)).trans gm⟩, fun h2 g e1 e2 e3 => ?_⟩
        have hm2 : h2 (b + 220) = some (.inr (11, fs)) := (e3 _ (by omega)).trans ((hfr _ (by omega) (by omega) (by omega)).trans gm)
        have ht2 := (e3 (b + 241) (by omega)).trans ((hfr _ (by omega) (by omega) (by omega)).trans y6)
        have hw2 := (e3 (b + 242) (by omega)).trans ((hfr _ (by omega) (by omega) (by omega)).trans s5)
        refine ⟨_, m_waive G h2 z1 b fs k nc np pl tn nr nl lX mf nw gfs hm2 k0 hk fm wf wr lr ht2 hw2 y7 s6 hnl hn, fun v2 h3 z3 hq2 => ?_⟩
        obtain ⟨rfl, F, r1, hq2⟩ := hq2
        rcases hq2 with ⟨r2, r3, r4⟩ | ⟨r2, r3, r4⟩ | ⟨r2, r3, r4, r5, r6, ⟨f3, r7, r8⟩, r9⟩
        · exact absurd r2 ncv
        · exact absurd hlt (by omega)
        · have e : ∀ a, a ≠ b + 180 → a ≠ b + 181 → a ≠ b + 182 → a ≠ b + 220 → a ≠ b + 242 → a ≠ b + 261 → h3 a = h0 a := fun a q1 q2 q3 q4 q5 q6 => (r9 a q4 q5).trans ((e3 a q6).trans (hfr a q1 q2 q3))
          have ek : ∀ a, a ≠ b + 220 → a ≠ b + 242 → a ≠ b + 261 → h3 a = h1 a := fun a q4 q5 q6 => (r9 a q4 q5).trans (e3 a q6)
          refine ⟨r4, ⟨F, r1, r6.1, r5⟩, (r9 _ (by omega) (by omega)).trans e1, ?_⟩
          exact ⟨k, nc, np, pl, sz, t, u, pa, ma, tn, tp, nr, r, ru, rd, nl, lr, la, fo, fl, nw + 1, fun i => if i < 8 * nw then wr i else ab_ds lX lr k0 (i - 8 * nw), lX, lX, lf, mf, F, ⟨gok, gLay.kept gAd (fun a q1 q2 => e a (by omega) (by omega) (by omega) (by omega) (by omega) (by omega)) (fun a q1 q2 => e a (by omega) (by omega) (by omega) (by omega) (by omega) (by omega)), gAd, gML.kept (fun a q1 q2 => e a (by omega) (by omega) (by omega) (by omega) (by omega) (by omega))⟩, ⟨gTp.kept (fun a q1 q2 => e a (by omega) (by omega) (by omega) (by omega) (by omega) (by omega)), gMTp.kept (fun a q1 q2 => e a (by omega) (by omega) (by omega) (by omega) (by omega) (by omega))⟩, ⟨gRu.kept (by omega) (fun a q1 q2 => e a (by omega) (by omega) (by omega) (by omega) (by omega) (by omega)), gRd.kept (by omega) (fun a q1 q2 => e a (by omega) (by omega) (by omega) (by omega) (by omega) (by omega)), gRl.kept (fun a q1 q2 => e a (by omega) (by omega) (by omega) (by omega) (by omega) (by omega)), gRr.kept (fun a q1 q2 => e a (by omega) (by omega) (by omega) (by omega) (by omega) (by omega)), gMR.kept (fun a q1 q2 => e a (by omega) (by omega) (by omega) (by omega) (by omega) (by omega))⟩, ⟨gLa.kept (fun a q1 q2 => e a (by omega) (by omega) (by omega) (by omega) (by omega) (by omega)), gFo.kept (fun a q1 q2 => e a (by omega) (by omega) (by omega) (by omega) (by omega) (by omega)), gFl.kept (fun a q1 q2 => e a (by omega) (by omega) (by omega) (by omega) (by omega) (by omega)), gLo.kept (fun a q1 q2 => e a (by omega) (by omega) (by omega) (by omega) (by omega) (by omega)), gMLa.kept (fun a q1 q2 => e a (by omega) (by omega) (by omega) (by omega) (by omega) (by omega))⟩, ⟨⟨by omega, (ek _ (by omega) (by omega) (by omega)).trans w1, ⟨f2, (ek _ (by omega) (by omega) (by omega)).trans w2, sv_wr (c := fun j => j) w3⟩, ⟨f1, (ek _ (by omega) (by omega) (by omega)).trans hf1⟩⟩, ⟨f3, r7, sv_wr r8⟩⟩, ⟨gDk.kept (fun a q1 q2 => e a (by omega) (by omega) (by omega) (by omega) (by omega) (by omega)), glq, gmf, glf⟩, ⟨r1, r6⟩, ⟨gCk.kept (fun a q1 q2 => e a (by omega) (by omega) (by omega) (by omega) (by omega) (by omega)), gSc.kept (fun a q1 q2 => e a (by omega) (by omega) (by omega) (by omega) (by omega) (by omega)), ⟨_, (r9 _ (by omega) (by omega)).trans e1⟩⟩⟩
    · obtain ⟨hz, rfl, ncv, hge, ⟨f1, hf1⟩, hfr⟩ := hq
      refine ⟨1, rfl, ⟨fs, (hfr _ (by omega)).trans gm⟩, _, m_waive G h1 z1 b fs k nc np pl tn nr nl lX mf nw gfs ((hfr _ (by omega)).trans gm) k0 hk fm wf wr lr ((hfr _ (by omega)).trans y6) ((hfr _ (by omega)).trans s5) y7 s6 hnl hn, fun v2 h3 z3 hq2 => ?_⟩
      obtain ⟨rfl, F, r1, hq2⟩ := hq2
      rcases hq2 with ⟨r2, r3, r4⟩ | ⟨r2, r3, r4, r5, r6, r7⟩ | ⟨r2, r3, r4⟩
      · exact absurd r2 ncv
      · have e : ∀ a, a ≠ b + 182 → a ≠ b + 220 → h3 a = h0 a := fun a q1 q2 => (r7 a q2).trans (hfr a q1)
        refine ⟨⟨0, r4⟩, ⟨F, r1, r6.1, r5⟩, ?_⟩
        exact ⟨k, nc, np, pl, sz, t, u, pa, ma, tn, tp, nr, r, ru, rd, nl, lr, la, fo, fl, nw, wr, lX, lX, lf, mf, F, ⟨gok, gLay.kept gAd (fun a q1 q2 => e a (by omega) (by omega)) (fun a q1 q2 => e a (by omega) (by omega)), gAd.mono hz, gML.kept (fun a q1 q2 => e a (by omega) (by omega))⟩, ⟨gTp.kept (fun a q1 q2 => e a (by omega) (by omega)), gMTp.kept (fun a q1 q2 => e a (by omega) (by omega))⟩, ⟨gRu.kept (by omega) (fun a q1 q2 => e a (by omega) (by omega)), gRd.kept (by omega) (fun a q1 q2 => e a (by omega) (by omega)), gRl.kept (fun a q1 q2 => e a (by omega) (by omega)), gRr.kept (fun a q1 q2 => e a (by omega) (by omega)), gMR.kept (fun a q1 q2 => e a (by omega) (by omega))⟩, ⟨gLa.kept (fun a q1 q2 => e a (by omega) (by omega)), gFo.kept (fun a q1 q2 => e a (by omega) (by omega)), gFl.kept (fun a q1 q2 => e a (by omega) (by omega)), gLo.kept (fun a q1 q2 => e a (by omega) (by omega)), gMLa.kept (fun a q1 q2 => e a (by omega) (by omega))⟩, ⟨⟨hn, (e _ (by omega) (by omega)).trans s1, ⟨rf, (e _ (by omega) (by omega)).trans s2, s3⟩, ⟨f1, (r7 _ (by omega)).trans hf1⟩⟩, gMWv.kept (fun a q1 q2 => e a (by omega) (by omega))⟩, ⟨gDk.kept (fun a q1 q2 => e a (by omega) (by omega)), glq, gmf, glf⟩, ⟨r1, r6⟩, ⟨gCk.kept (fun a q1 q2 => e a (by omega) (by omega)), gSc.kept (fun a q1 q2 => e a (by omega) (by omega)), ⟨_, (e _ (by omega) (by omega)).trans ho⟩⟩⟩
      · exact absurd r3 hge
  · exact at_refZ 0 hi rfl (c_waive_o G hl0 h z b _ _ _ _ _ _ _ _ _ _ _ _ _ gDk.1 c _ _ _ _ _ _ _ y1 hg) gm gfs.1 (fun z1 => m_waive_o G _ _ _ _ gfs.1 gm c _ gfs.f_latest hg)
