theorem ab_Inv_lay {G : sv_G} {b z : Nat} {h h1 : sv_h} {k : Int32} {nc np pl : Nat} {sz : Nat → Nat} {t : Nat → Nat → Int32} {u : Nat → Nat → Nat → Int32} {pa ma : Nat → Nat} {tn : Nat} {tp : Nat → Int32} {nr : Nat} {r : Nat → Nat → Int32} {ru rd nl : Nat} {lr : Nat → Int64} {la fo fl nw : Nat} {wr : Nat → Int64} {lX lq lf mf : Int32} {fs : List Value} (gTp : ab_Tape G h b tn tp) (gMTp : ab_MTape G h b tn tp) (gRu : ab_rows G h ru (ru + 1)) (gRd : ab_rows G h rd (rd + 1)) (gRl : ab_Rule G h (ru + 1) nr r) (gRr : ab_Rdr G h b rd k) (gMR : ab_MRule G h b nr r) (gLa : ab_late G h la nl lr) (gFo : ab_any G h fo) (gFl : ab_any G h fl) (gLo : ab_any G h (b + 216)) (gMLa : ab_MLate G h b nl lr) (gWv : ab_wv G h b nw wr) (gMWv : ab_MWv G h b nw wr) (gDk : ab_Dk G h b nr lX lf ru rd la fo fl) (glq : nl ≠ 0 → lX = lq) (gmf : (mf = 0 ∨ mf = 1) ∧ ∀ i, i < nr → ab_cd r i) (glf : lf = (if lq = -1 then 0 else mf)) (gCk : ab_Chk G h b) (gSc : ab_MScr G h b) (gok : ab_ok nc np pl sz t u) (gLay : ab_Lay G h1 b k nc np pl sz t u pa ma) (gAd : ab_ad b np pl z pa ma) (gML : ab_MLay G h1 b nc np pl sz t u) (e : ∀ a, (a = b ∨ b + 8 ≤ a) → a < b + 262 → a ≠ b + 220 → (a < b + 221 ∨ b + 232 ≤ a) → a ≠ b + 261 → h1 a = h a) (hm : h1 (b + 220) = some (.inr (11, fs))) (gfs : ab_fs b k nc np pl tn nr nl lq mf nw fs) (go : ∃ f, h1 (b + 261) = some (.inl (G.2.2.1 1, 1, .inr (.inl f)))) : ab_Inv G b h1 z := by
  obtain ⟨gru, i1, i2, i3, i4, i5, i6, i7, i8, i9, gla, gfo, gfl⟩ := id gDk.2
  have gz := gAd.1
  exact ⟨k, nc, np, pl, sz, t, u, pa, ma, tn, tp, nr, r, ru, rd, nl, lr, la, fo, fl, nw, wr, lX, lq, lf, mf, fs, ⟨gok, gLay, gAd, gML⟩, ⟨gTp.kept (fun a q1 q2 => e a (by omega) (by omega) (by omega) (by omega) (by omega)), gMTp.kept (fun a q1 q2 => e a (by omega) (by omega) (by omega) (by omega) (by omega))⟩, ⟨gRu.kept (by omega) (fun a q1 q2 => e a (by omega) (by omega) (by omega) (by omega) (by omega)), gRd.kept (by omega) (fun a q1 q2 => e a (by omega) (by omega) (by omega) (by omega) (by omega)), gRl.kept (fun a q1 q2 => e a (by omega) (by omega) (by omega) (by omega) (by omega)), gRr.kept (fun a q1 q2 => e a (by omega) (by omega) (by omega) (by omega) (by omega)), gMR.kept (fun a q1 q2 => e a (by omega) (by omega) (by omega) (by omega) (by omega))⟩, ⟨gLa.kept (fun a q1 q2 => e a (by omega) (by omega) (by omega) (by omega) (by omega)), gFo.kept (fun a q1 q2 => e a (by omega) (by omega) (by omega) (by omega) (by omega)), gFl.kept (fun a q1 q2 => e a (by omega) (by omega) (by omega) (by omega) (by omega)), gLo.kept (fun a q1 q2 => e a (by omega) (by omega) (by omega) (by omega) (by omega)), gMLa.kept (fun a q1 q2 => e a (by omega) (by omega) (by omega) (by omega) (by omega))⟩, ⟨gWv.kept (fun a q1 q2 => e a (by omega) (by omega) (by omega) (by omega) (by omega)), gMWv.kept (fun a q1 q2 => e a (by omega) (by omega) (by omega) (by omega) (by omega))⟩, ⟨gDk.kept (fun a q1 q2 => e a (by omega) (by omega) (by omega) (by omega) (by omega)), glq, gmf, glf⟩, ⟨hm, gfs⟩, ⟨gCk.kept (fun a q1 q2 => e a (by omega) (by omega) (by omega) (by omega) (by omega)), gSc.kept (fun a q1 q2 => e a (by omega) (by omega) (by omega) (by omega) (by omega)), go⟩⟩
set_option maxHeartbeats 4000000 in
set_option maxRecDepth 100000 in
theorem g_corner (G : sv_G) (hl0 : G.1.stackTraces = false) (b : Nat) (c : Int32) (x y : Int64) : OpZ G mX12_corner mX13_corner b (b + 220) (b + 261) ["java/lang/IndexOutOfBoundsException", "java/lang/IllegalStateException", "java/lang/IllegalArgumentException"] [.int c, .long x, .long y] (ab_Inv G b) (ab_Inv G b) := by
  refine OpZ.of fun h z hi => ?_
  obtain ⟨k, nc, np, pl, sz, t, u, pa, ma, tn, tp, nr, r, ru, rd, nl, lr, la, fo, fl, nw, wr, lX, lq, lf, mf, fs, ⟨gok, gLay, gAd, gML⟩, ⟨gTp, gMTp⟩, ⟨gRu, gRd, gRl, gRr, gMR⟩, ⟨gLa, gFo, gFl, gLo, gMLa⟩, ⟨gWv, gMWv⟩, ⟨gDk, glq, gmf, glf⟩, ⟨gm, gfs⟩, ⟨gCk, gSc, go⟩⟩ := id hi
  have gz := gAd.1
  obtain ⟨f0, ho⟩ := id go
  obtain ⟨l1, ⟨fp, l2, l3⟩, l4, l5, l6, l7, l8, l9, l10⟩ := id gLay
  have hnp : np ≤ 64 := gok.2.1
  by_cases hg : 0 ≤ c ∧ c < nI np
  · obtain ⟨p, hp, rfl⟩ := sv_idx (by omega) hg
    obtain ⟨rt, ar, fx, fy, ff, fo', w1, w2, w3, w4, w5, w6, w7⟩ := l9 p hp
    obtain ⟨⟨m0, n0, o0⟩, ⟨m1, n1, o1⟩, ⟨m2, n2, o2⟩, ⟨m3, n3, o3⟩, ⟨m4, n4, o4⟩, ⟨m5, n5, o5⟩, ⟨m6, n6, o6⟩, ⟨m7, n7, o7⟩, ⟨m8, n8, o8⟩, ⟨m9, n9, o9⟩, ⟨m10, n10, o10⟩⟩ := id gML
    have hpa := gAd.2.1 p hp
    have hn16 : sz p ≤ 16 := (gok.2.2.2.1 p hp).1
    by_cases hn : sz p < 16
    · by_cases hc : (¬ x < -10000 ∧ x ≤ 10000) ∧ (¬ y < -10000 ∧ y ≤ 10000)
      · intro h0 z0 hpt
        obtain ⟨rfl, rfl⟩ := hpt
        refine ⟨_, _, c_corner G hl0 h0 z0 b p (pa p) (sz p) x y _ _ _ _ _ _ _ _ _ _ _ _ _ gDk.1 _ _ _ _ _ _ _ _ _ _ l1 hg fp l2 (by omega) (l3 p hp) _ _ _ _ _ fx fy ff fo' w1 w2 w3 w4 w5 hn hc.1 hc.2, fun v h1 z1 hq => ?_, fun E h1 z1 hq => hq.elim⟩
        obtain ⟨w, rfl, hq⟩ := hq
        have hX := (o4 p (sz p - 1) hp)
        have hY := (o5 p (sz p - 1) hp)
        have hrr : (0 < sz p ∧ (m4 (16 * p + (sz p - 1)) = x ↔ m5 (16 * p + (sz p - 1)) = y)) ↔ (0 < sz p ∧ (x.toInt32 = fx (sz p - 1) ↔ y.toInt32 = fy (sz p - 1))) := by
          by_cases q : 0 < sz p
          · have e1 := hX (by omega)
            have e2 := hY (by omega)
            have e3 := w6 (sz p - 1) (by omega)
            have e4 := (sv_cr hc.1).1
            have e5 := (sv_cr hc.2).1
            rw [e1, e2, e3.1, e3.2]
            have a1 : ((u 0 p (sz p - 1)).toInt64 = x) ↔ (x.toInt32 = u 0 p (sz p - 1)) := ⟨fun r => (sv_32i.mp (e4.trans r.symm)), fun r => by rw [← r]; exact e4⟩
            have a2 : ((u 1 p (sz p - 1)).toInt64 = y) ↔ (y.toInt32 = u 1 p (sz p - 1)) := ⟨fun r => (sv_32i.mp (e5.trans r.symm)), fun r => by rw [← r]; exact e5⟩
            rw [a1, a2]
          · exact ⟨fun r => absurd r.1 q, fun r => absurd r.1 q⟩
        have hf0 : ∀ a, (a < pa p ∨ pa p + 5 ≤ a) → h1 a = h0 a := by
          rcases hq with ⟨_, _, rfl, _⟩ | ⟨_, _, _, _, _, _, _, _, _, _, _, _, _, r⟩
          · exact fun _ _ => rfl
          · exact r
        have hz1 : z1 = z0 := by
          rcases hq with ⟨_, _, _, r⟩ | ⟨_, _, r, _⟩
          · exact r
          · exact r
        subst hz1
        refine ⟨w, rfl, ⟨f0, (hf0 _ (by omega)).trans ho⟩, by omega, ⟨_, (hf0 _ (by omega)).trans gm⟩, fun h2 g e1 e2 e3 => ?_⟩
        have hm2 : h2 (b + 220) = some (.inr (11, fs)) := (e3 _ (by omega)).trans ((hf0 _ (by omega)).trans gm)
        have lk : ∀ a, a ≠ b + 261 → (a < pa p ∨ pa p + 5 ≤ a) → h2 a = h0 a := fun a q1 q2 => (e3 a q1).trans (hf0 a q2)
        refine ⟨_, m_corner G h2 z1 b fs k nc np pl tn nr nl lq mf nw gfs hm2 p (sz p) x y m3 m4 m5 ((lk _ (by omega) (by omega)).trans n3) ((lk _ (by omega) (by omega)).trans n4) ((lk _ (by omega) (by omega)).trans n5) hg (by omega) (o3 p hp) hn16 hn hc.1 hc.2, fun v2 h3 z3 hq2 => ?_⟩
        obtain ⟨w', rfl, rfl, hq2⟩ := hq2
        rcases hq with ⟨rfl, q1, rfl, _⟩ | ⟨rfl, q1, _, rt1, ar1, ff1, fo1, s1, s2, s3, s4, s5, s6, s7⟩
        · rcases hq2 with ⟨rfl, q2, rfl⟩ | ⟨_, q2, _⟩
          · exact ⟨rfl, ⟨_, sv_us, by rw [List.length_set]; exact gfs.1, sv_ls (by rw [gfs.1]; decide)⟩, (sv_un (by omega)).trans e1, hi.same (Nat.le_refl _) (fun a q1 q2 => (sv_un q1).trans (e3 a q2)) gm sv_us ⟨_, (sv_un (by omega)).trans e1⟩⟩
          · exact absurd (hrr.mpr q1) q2
        · rcases hq2 with ⟨_, q2, _⟩ | ⟨rfl, q2, r0, r4, r5, r6, r7⟩
          · exact absurd (hrr.mp q2) q1
          · have e6 : ∀ a, (a < pa p ∨ pa p + 5 ≤ a) → a ≠ b + 220 → a ≠ b + 224 → a ≠ b + 225 → a ≠ b + 226 → a ≠ b + 261 → h3 a = h0 a := fun a q1 q2 q3 q4 q5 q6 => (r7 a q2 q3 q4 q5).trans (lk a q6 q1)
            have ek : ∀ a, a ≠ b + 220 → a ≠ b + 224 → a ≠ b + 225 → a ≠ b + 226 → a ≠ b + 261 → h3 a = h1 a := fun a q2 q3 q4 q5 q6 => (r7 a q2 q3 q4 q5).trans (e3 a q6)
            refine ⟨rfl, ⟨_, r0, by rw [List.length_set]; exact gfs.1, sv_ls (by rw [gfs.1]; decide)⟩, (r7 _ (by omega) (by omega) (by omega) (by omega)).trans e1, ?_⟩
            have gLay' : ab_Lay G h3 b k nc np pl (va_up sz p (sz p + 1)) t (ab_u u p (upd fx (sz p) x.toInt32) (upd fy (sz p) y.toInt32)) pa ma := by
              refine gLay.poly gAd hp ?_ (fun a q1 q2 => e6 a (by omega) (by omega) (by omega) (by omega) (by omega) (by omega)) (fun a q1 q2 q3 => e6 a q3 (by omega) (by omega) (by omega) (by omega) (by omega)) (fun c' i' hc => rfl) (fun i' hi' => sv_un hi') (fun c' i' hi' => ab_u_n hi')
              rw [sv_us, ab_u_0, ab_u_1]
              exact ⟨rt1, ar1, _, _, ff1, fo1, (ek _ (by omega) (by omega) (by omega) (by omega) (by omega)).trans s1, (ek _ (by omega) (by omega) (by omega) (by omega) (by omega)).trans s2, (ek _ (by omega) (by omega) (by omega) (by omega) (by omega)).trans s3, (ek _ (by omega) (by omega) (by omega) (by omega) (by omega)).trans s4, (ek _ (by omega) (by omega) (by omega) (by omega) (by omega)).trans s5, fun i' hi' => ⟨rfl, rfl⟩, s6⟩
            have gML' : ab_MLay G h3 b nc np pl (va_up sz p (sz p + 1)) t (ab_u u p (upd fx (sz p) x.toInt32) (upd fy (sz p) y.toInt32)) := ⟨⟨m0, (e6 _ (by omega) (by omega) (by omega) (by omega) (by omega) (by omega)).trans n0, o0⟩, ⟨m1, (e6 _ (by omega) (by omega) (by omega) (by omega) (by omega) (by omega)).trans n1, o1⟩, ⟨m2, (e6 _ (by omega) (by omega) (by omega) (by omega) (by omega) (by omega)).trans n2, o2⟩, ⟨_, r4, fun p' hp' => by
          by_cases q : p' = p
          · rw [q, sv_us]; simp [upd, nI_1]
          · rw [sv_un q]; simp only [upd, if_neg q]; exact o3 p' hp'⟩, ⟨_, r5, fun p' i' hp' hi' => by
          by_cases q : p' = p
          · rw [q, sv_us] at hi'
            rw [q, ab_u_0]
            by_cases e : i' = sz p
            · rw [e, sv_updL_eq]; simp only [upd, if_true]; exact (sv_cr hc.1).1.symm
            · rw [sv_updL_ne (by omega)]; simp only [upd, if_neg e]; rw [(w6 i' (by omega)).1]; exact o4 p i' hp (by omega)
          · rw [sv_un q] at hi'
            rw [ab_u_n q, sv_updL_ne (by have := (gok.2.2.2.1 p' hp').1; have := (gok.2.2.2.1 p hp).1; omega)]; exact o4 p' i' hp' hi'⟩, ⟨_, r6, fun p' i' hp' hi' => by
          by_cases q : p' = p
          · rw [q, sv_us] at hi'
            rw [q, ab_u_1]
            by_cases e : i' = sz p
            · rw [e, sv_updL_eq]; simp only [upd, if_true]; exact (sv_cr hc.2).1.symm
            · rw [sv_updL_ne (by omega)]; simp only [upd, if_neg e]; rw [(w6 i' (by omega)).2]; exact o5 p i' hp (by omega)
          · rw [sv_un q] at hi'
            rw [ab_u_n q, sv_updL_ne (by have := (gok.2.2.2.1 p' hp').1; have := (gok.2.2.2.1 p hp).1; omega)]; exact o5 p' i' hp' hi'⟩, ⟨m6, (e6 _ (by omega) (by omega) (by omega) (by omega) (by omega) (by omega)).trans n6, o6⟩, ⟨m7, (e6 _ (by omega) (by omega) (by omega) (by omega) (by omega) (by omega)).trans n7, o7⟩, ⟨m8, (e6 _ (by omega) (by omega) (by omega) (by omega) (by omega) (by omega)).trans n8, o8⟩, ⟨m9, (e6 _ (by omega) (by omega) (by omega) (by omega) (by omega) (by omega)).trans n9, o9⟩, ⟨m10, (e6 _ (by omega) (by omega) (by omega) (by omega) (by omega) (by omega)).trans n10, o10⟩⟩
            exact ab_Inv_lay gTp gMTp gRu gRd gRl gRr gMR gLa gFo gFl gLo gMLa gWv gMWv gDk glq gmf glf gCk gSc (gok.corner hp hn (fun i hi => ⟨(w6 i hi).1, (w6 i hi).2⟩) (sv_cr hc.1).2 (sv_cr hc.2).2 q1) gLay' gAd gML' (fun a q1 q2 q3 q4 q5 => e6 a (by omega) q3 (by omega) (by omega) (by omega) q5) r0 (gfs.code _) ⟨_, (r7 _ (by omega) (by omega) (by omega) (by omega)).trans e1⟩
      · exact at_refZ 2 hi rfl (c_corner_a G hl0 h z b p (pa p) (sz p) x y _ _ _ _ _ _ _ _ _ _ _ _ _ gDk.1 _ _ _ _ _ _ _ _ _ _ l1 hg fp l2 (by omega) (l3 p hp) _ _ _ _ _ fx fy ff fo' w1 w2 w3 w4 w5 hn hc) gm gfs.1 (fun z1 => m_corner_a G h z1 b fs k nc np pl tn nr nl lq mf nw gfs gm p (sz p) x y m3 m4 m5 n3 n4 n5 hg (by omega) (o3 p hp) hn16 hn hc)
    · exact at_refZ 1 hi rfl (c_corner_f G hl0 h z b p (pa p) (sz p) x y _ _ _ _ _ _ _ _ _ _ _ _ _ gDk.1 _ _ _ _ _ _ _ _ _ _ l1 hg fp l2 (by omega) (l3 p hp) _ _ _ _ _ fx fy ff fo' w1 w2 w3 w4 w5 hn hn16) gm gfs.1 (fun z1 => m_corner_f G h z1 b fs k nc np pl tn nr nl lq mf nw gfs gm p (sz p) x y m3 m4 m5 n3 n4 n5 hg (by omega) (o3 p hp) hn16 (by omega))
  · exact at_refZ 0 hi rfl (c_corner_o G hl0 h z b _ _ _ _ _ _ _ _ _ _ _ _ _ gDk.1 c x y _ _ _ _ _ _ _ _ _ _ l1 hg) gm gfs.1 (fun z1 => m_corner_o G _ _ _ _ gfs.1 gm c x y _ gfs.f_polygons hg)
