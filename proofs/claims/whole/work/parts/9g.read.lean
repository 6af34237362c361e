set_option maxHeartbeats 4000000 in
set_option maxRecDepth 100000 in
theorem g_read (G : sv_G) (b : Nat) : OpD G mX12_read mX13_read b (b + 220) [] (ab_Inv G b) (ab_Inv G b) := by
  intro h z hi
  obtain ⟨k, nc, np, pl, sz, t, u, pa, ma, tn, tp, nr, r, ru, rd, nl, lr, la, fo, fl, nw, wr, lX, lq, lf, mf, fs, ⟨gok, gLay, gAd, gML⟩, ⟨gTp, gMTp⟩, ⟨gRu, gRd, gRl, gRr, gMR⟩, ⟨gLa, gFo, gFl, gLo, gMLa⟩, ⟨gWv, gMWv⟩, ⟨gDk, glq, gmf, glf⟩, ⟨gm, gfs⟩, ⟨gCk, gSc, go⟩⟩ := id hi
  obtain ⟨gru, i1, i2, i3, i4, i5, i6, i7, i8, i9, gla, gfo, gfl⟩ := id gDk.2
  have gz := gAd.1
  obtain ⟨f0, ho⟩ := id go
  obtain ⟨t1, t2, ⟨f, t3, t4⟩, t5⟩ := id gTp
  obtain ⟨f', s1, s2⟩ := id gMTp
  obtain ⟨fq, fq1, fq2⟩ := id gRd
  have Y : cy_ G b tn tp h rd := ⟨t1, t5, t2, ⟨f, t3, t4⟩, by omega, fq, fq1, fun j hj => (fq2 j hj).1⟩
  obtain ⟨glaN, xl, ro, od, st, us, ov, hm, wl_, ⟨gx, gt1, gt2, gt3, gt4⟩, gtw⟩ := id gLa
  obtain ⟨gw1, gw2, ⟨fw, gw3, gw4⟩, gw5⟩ := id gWv
  obtain ⟨⟨gk, p0, r0⟩, ⟨ga, p1, r1⟩, ⟨gb, p2, r2⟩, ⟨gl, p3, r3⟩, ⟨gr, p4, r4⟩, ⟨gv, p5, r5⟩, ⟨ge, p6, r6⟩, ⟨nm, p7⟩⟩ := id gMR
  have gla9 : ∃ i, i < 3 ∧ la = b + 204 + 4 * i := ⟨i1, i4, gla⟩
  refine ⟨_, c_read G h z b tn tp k ru rd la fo fl (nI nr) lX lf _ _ _ us (nI nl) ov hm _ _ _ gDk.1 Y gRr (fun i hi => (fq2 i hi).2) gru gla9 gt1 gw2, fun v h1 z1 hq => ?_⟩
  obtain ⟨rfl, Ra, T8, hq⟩ := hq
  have FR : ∀ w, w ≠ b → w ≠ b + 8 → w ≠ b + 10 → w ≠ la → w ≠ b + 180 → ¬ (rd + 1 ≤ w ∧ w < rd + 21) → h1 w = h w := by
    rcases hq with ⟨_, _, _, _, _, _, _, _, _, _, q⟩ | ⟨_, _, _, _, q⟩
    · exact q
    · exact fun w _ a2 a3 _ _ a6 => q w a2 a3 a6
  have hm1 : h1 (b + 220) = some (.inr (11, fs)) := (FR _ (by omega) (by omega) (by omega) (by omega) (by omega) (by omega)).trans gm
  have A1 : ma_ G h1 b gk ga gb gl gr gv ge nm := ⟨(FR _ (by omega) (by omega) (by omega) (by omega) (by omega) (by omega)).trans p0, (FR _ (by omega) (by omega) (by omega) (by omega) (by omega) (by omega)).trans p1, (FR _ (by omega) (by omega) (by omega) (by omega) (by omega) (by omega)).trans p2, (FR _ (by omega) (by omega) (by omega) (by omega) (by omega) (by omega)).trans p3, (FR _ (by omega) (by omega) (by omega) (by omega) (by omega) (by omega)).trans p4, (FR _ (by omega) (by omega) (by omega) (by omega) (by omega) (by omega)).trans p5, (FR _ (by omega) (by omega) (by omega) (by omega) (by omega) (by omega)).trans p6, (FR _ (by omega) (by omega) (by omega) (by omega) (by omega) (by omega)).trans p7⟩
  have X : mx_ b tn tp (fs.set 0 (.int 0)) k := (gfs.code (.int 0)).mx t1 t5
  have MR := m_read G h1 z1 b tn tp fs k X gfs.1 gfs.f_length gfs.f_tape hm1 f' ((FR _ (by omega) (by omega) (by omega) (by omega) (by omega) (by omega)).trans s1) s2 gk ga gb gl gr gv ge nm A1
  rcases hq with ⟨d1, rr, q1, q2, q3, q4, q5, q6, q7, q8, _⟩ | ⟨e9, q1, q3, q4, q5⟩
  · refine ⟨_, q3, ⟨_, hm1⟩, _, MR, fun v2 h2 z2 hq2 => ?_⟩
    obtain ⟨rfl, F, m1, ⟨jj, r9, m2⟩, ⟨d2, rr2, ak, aa, ab, al, ar, av, ae, nm1, u1, u2, u3, u4, u5, u6⟩ | ⟨e2, _, _, _, _, _, _, _, _, u1, _⟩⟩ := hq2
    · rw [q1] at u1
      injection u1 with u1
      injection u1 with ua ub
      subst ua ub
      refine ⟨u3, ?_⟩
      have gfs' := ((((((gfs.code (.int 0)).agree m2.1 m2.2.2.2.2.2.2.2).length 0).rules d1).latest 0).latestRule (-1)).waived 0
      exact ab_Inv_rdS G b h h1 h2 _ k nc np pl sz t u pa ma tn tp nr r ru rd nl lr la fo fl nw wr lX lq lf mf _ d1 rr ak aa ab al ar av ae nm1 _ _ _ _ _ _ _ _ _ _ gok gLay gAd gML gRu gRd gRl gLa gFo gFl gLo gMLa gWv gMWv gDk ⟨gmf.1, rd_all_c q1⟩ gCk gSc ho FR Ra T8 q2 q4 q5 gt1 q6 gw2 q7 q8 m1 u4 u5 u6 gMTp gTp gfs'
    · rw [q1] at u1
      exact nomatch u1
  · refine ⟨_, q3, ⟨_, hm1⟩, _, MR, fun v2 h2 z2 hq2 => ?_⟩
    obtain ⟨rfl, F, m1, ⟨jj, r9, m2⟩, ⟨d2, rr2, _, _, _, _, _, _, _, _, u1, _⟩ | ⟨e2, ak, aa, ab, al, ar, av, ae, nm1, u1, u3, u4, u5, u6⟩⟩ := hq2
    · rw [q1] at u1
      exact nomatch u1
    · rw [q1] at u1
      injection u1 with u1
      subst u1
      refine ⟨u3, ?_⟩
      have gfs' := ((gfs.code (.int 0)).agree m2.1 m2.2.2.2.2.2.2.2).length 0
      exact ab_Inv_rdF G b h h1 h2 _ k nc np pl sz t u pa ma tn tp nr r ru rd nl lr la fo fl nw wr lX lq lf mf _ gk ga gb gl gr gv ge ak aa ab al ar av ae nm1 gok gLay gAd gML gRu gRd gRl gLa gFo gFl gLo gMLa gWv gMWv gDk glq gmf glf gCk gSc ho q5 Ra T8 q4 m1 u4 u5 u6 r0 r1 r2 r3 r4 r5 r6 gMR gMTp gTp gfs'
