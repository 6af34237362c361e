theorem sv_upd {f g : Nat → Int32} {n : Nat} {x : Int32} (H : ∀ i, i < n → f i = g i) : ∀ i, i < n + 1 → upd f n x i = upd g n x i := by
  intro i hi
  unfold upd
  by_cases q : i = n
  · rw [if_pos q, if_pos q]
  · rw [if_neg q, if_neg q]; exact H i (by omega)
theorem sv_updk {p : Int32 → Prop} {g : Nat → Int32} {n : Nat} {x : Int32} (H : ∀ i, i < n → p (g i)) (hx : p x) : ∀ i, i < n + 1 → p (upd g n x i) := by
  intro i hi
  unfold upd
  by_cases q : i = n
  · rw [if_pos q]; exact hx
  · rw [if_neg q]; exact H i (by omega)
theorem sv_idx {c : Int32} {n : Nat} (hn : n < 2 ^ 31) (h : 0 ≤ c ∧ c < nI n) : ∃ j, j < n ∧ c = nI j := by
  obtain ⟨j, hj, rfl⟩ := nI_of (x := c) (by have := h.1; rw [Int32.le_iff_toInt_le] at this; rw [Int32.lt_iff_toInt_lt]; rw [sv_i0] at *; omega)
  exact ⟨j, (nI_ltI hj hn).mp h.2, rfl⟩
theorem ab_Lay.grow {G : sv_G} {h h1 : sv_h} {b z : Nat} {k : Int32} {nc nc' np pl : Nat} {sz : Nat → Nat} {t : Nat → Nat → Int32} {u : Nat → Nat → Nat → Int32} {pa ma : Nat → Nat} (H : ab_Lay G h b k nc np pl sz t u pa ma) (A : ab_ad b np pl z pa ma) (e0 : h1 (b + 1) = some (.inr (1, [.int k, .int (nI nc'), .ref (b + 2), .int (nI np), .ref (b + 3), .ref (b + 4), .ref (b + 5), .int (nI pl), .ref (b + 6), .ref (b + 7)]))) (e : ∀ a, b + 2 ≤ a → a < b + 8 → h1 a = h a) (e2 : ∀ a, b + 262 ≤ a → a < z → h1 a = h a) : ab_Lay G h1 b k nc' np pl sz t u pa ma := by
  obtain ⟨p1, ⟨f2, p2, q2⟩, ⟨f3, p3, q3⟩, ⟨f4, p4, q4⟩, ⟨f5, p5, q5⟩, ⟨f6, p6⟩, ⟨f7, p7⟩, p8, p9⟩ := H
  obtain ⟨a0, a1, a2, a3, a4⟩ := A
  exact ⟨e0, ⟨f2, (e _ (by omega) (by omega)).trans p2, q2⟩, ⟨f3, (e _ (by omega) (by omega)).trans p3, q3⟩, ⟨f4, (e _ (by omega) (by omega)).trans p4, q4⟩, ⟨f5, (e _ (by omega) (by omega)).trans p5, q5⟩, ⟨f6, (e _ (by omega) (by omega)).trans p6⟩, ⟨f7, (e _ (by omega) (by omega)).trans p7⟩,
    fun p hp => (p8 p hp).kept (fun a q1 q2 => e2 a (by have := a1 p hp; omega) (by have := a1 p hp; omega)),
    fun i hi => (e2 _ (a2 i hi).1 (a2 i hi).2).trans (p9 i hi)⟩
theorem g_unit (G : sv_G) (b : Nat) (w0 : Int32) : OpD G mX12_unit mX13_unit b (b + 220) [.int w0] (ab_Inv G b) (ab_Inv G b) := by
  intro h z hi
  obtain ⟨k, nc, np, pl, sz, t, u, pa, ma, tn, tp, nr, r, ru, rd, nl, lr, la, fo, fl, nw, wr, lX, lq, lf, mf, fs, ⟨gok, gLay, gAd, gML⟩, ⟨gTp, gMTp⟩, ⟨gRu, gRd, gRl, gRr, gMR⟩, ⟨gLa, gFo, gFl, gLo, gMLa⟩, ⟨gWv, gMWv⟩, ⟨gDk, glq, gmf, glf⟩, ⟨gm, gfs⟩, ⟨gCk, gSc, go⟩⟩ := id hi
  obtain ⟨gru, i1, i2, i3, i4, i5, i6, i7, i8, i9, gla, gfo, gfl⟩ := id gDk.2
  have gz := gAd.1
  obtain ⟨f0, ho⟩ := id go
  obtain ⟨t1, t2, ⟨f, t3, t4⟩, t5⟩ := id gTp
  obtain ⟨f', s1, s2⟩ := id gMTp
  refine ⟨_, c_unit G h z b w0 _ _ _ _ _ _ _ _ _ _ _ _ _ gDk.1 (b + 9) tn f t1 t2 t3 (by omega), fun v h1 z1 hq => ?_⟩
  obtain ⟨rfl, ⟨q1, q2, rfl, rfl⟩ | ⟨q1, rfl, rfl⟩⟩ := hq
  · refine ⟨1, rfl, ⟨_, (sv_un (by omega)).trans ((sv_un (by omega)).trans gm)⟩, _, m_unit G _ _ _ _ gfs.1 ((sv_un (by omega)).trans ((sv_un (by omega)).trans gm)) w0 (b + 232) tn f' t1 gfs.f_tape gfs.f_length ((sv_un (by omega)).trans ((sv_un (by omega)).trans s1)) (by omega), fun v2 h2 z2 hq2 => ?_⟩
    obtain ⟨rfl, ⟨p1, p2, rfl, rfl⟩ | ⟨p1, rfl, rfl⟩⟩ := hq2
    · have e : ∀ a, a ≠ b + 8 → a ≠ b + 9 → a ≠ b + 220 → a ≠ b + 232 → va_up (va_up (va_up (va_up h (b + 9) (some (.inl (G.2.2.1 0, 600, .inl (upd f tn w0))))) (b + 8) (some (.inr (7, [.ref (b + 9), .int (nI (tn + 1))])))) (b + 232) (some (.inl (G.2.2.1 0, 600, .inl (upd f' tn w0))))) (b + 220) (some (.inr (11, (fs.set 0 (.int 0)).set 17 (.int (nI (tn + 1)))))) a = h a := fun a q1 q2 q3 q4 => (sv_un q3).trans ((sv_un q4).trans ((sv_un q1).trans (sv_un q2)))
      exact ⟨rfl, ⟨k, nc, np, pl, sz, t, u, pa, ma, tn + 1, upd tp tn w0, nr, r, ru, rd, nl, lr, la, fo, fl, nw, wr, lX, lq, lf, mf, _, ⟨gok, gLay.kept gAd (fun a q1 q2 => e a (by omega) (by omega) (by omega) (by omega)) (fun a q1 q2 => e a (by omega) (by omega) (by omega) (by omega)), gAd, gML.kept (fun a q1 q2 => e a (by omega) (by omega) (by omega) (by omega))⟩, ⟨⟨by omega, (sv_un (by omega)).trans ((sv_un (by omega)).trans sv_us), ⟨_, (sv_un (by omega)).trans ((sv_un (by omega)).trans ((sv_un (by omega)).trans sv_us)), sv_upd t4⟩, sv_updk (p := fun x => x = 10 ∨ (32 ≤ x ∧ x ≤ 126)) t5 q1⟩, ⟨_, (sv_un (by omega)).trans sv_us, sv_upd s2⟩⟩, ⟨gRu.kept (by omega) (fun a q1 q2 => e a (by omega) (by omega) (by omega) (by omega)), gRd.kept (by omega) (fun a q1 q2 => e a (by omega) (by omega) (by omega) (by omega)), gRl.kept (fun a q1 q2 => e a (by omega) (by omega) (by omega) (by omega)), gRr.kept (fun a q1 q2 => e a (by omega) (by omega) (by omega) (by omega)), gMR.kept (fun a q1 q2 => e a (by omega) (by omega) (by omega) (by omega))⟩, ⟨gLa.kept (fun a q1 q2 => e a (by omega) (by omega) (by omega) (by omega)), gFo.kept (fun a q1 q2 => e a (by omega) (by omega) (by omega) (by omega)), gFl.kept (fun a q1 q2 => e a (by omega) (by omega) (by omega) (by omega)), gLo.kept (fun a q1 q2 => e a (by omega) (by omega) (by omega) (by omega)), gMLa.kept (fun a q1 q2 => e a (by omega) (by omega) (by omega) (by omega))⟩, ⟨gWv.kept (fun a q1 q2 => e a (by omega) (by omega) (by omega) (by omega)), gMWv.kept (fun a q1 q2 => e a (by omega) (by omega) (by omega) (by omega))⟩, ⟨gDk.kept (fun a q1 q2 => e a (by omega) (by omega) (by omega) (by omega)), glq, gmf, glf⟩, ⟨sv_us, (gfs.code _).length (tn + 1)⟩, ⟨gCk.kept (fun a q1 q2 => e a (by omega) (by omega) (by omega) (by omega)), gSc.kept (fun a q1 q2 => e a (by omega) (by omega) (by omega) (by omega)), ⟨_, (e _ (by omega) (by omega) (by omega) (by omega)).trans ho⟩⟩⟩⟩
    · exact absurd ⟨q1, q2⟩ p1
  · refine ⟨0, rfl, ⟨_, gm⟩, _, m_unit G _ _ _ _ gfs.1 gm w0 (b + 232) tn f' t1 gfs.f_tape gfs.f_length s1 (by omega), fun v2 h2 z2 hq2 => ?_⟩
    obtain ⟨rfl, ⟨p1, p2, rfl, rfl⟩ | ⟨p1, rfl, rfl⟩⟩ := hq2
    · exact absurd ⟨p1, p2⟩ q1
    · exact ⟨rfl, hi.same (Nat.le_refl _) (fun a q1 q2 => sv_un q1) gm sv_us ⟨_, (sv_un (by omega)).trans ho⟩⟩
theorem sv_fxk (f g : Nat → Int32) (n : Nat) (x : Int32) (H : ∀ i, i < n → f i = g i) : ∀ p, ∀ i, i < n + sv_ct x p → sv_fx f n x p i = sv_fx g n x p i
  | 0 => H
  | p + 1 => by
    intro i hi
    by_cases q : sv_by x (sv_sf p) = 0
    · rw [sv_fx_0 q, sv_fx_0 q]
      rw [sv_ct_0 q] at hi
      exact sv_fxk f g n x H p i hi
    · rw [sv_fx_1 q, sv_fx_1 q]
      rw [sv_ct_1 q] at hi
      exact sv_upd (sv_fxk f g n x H p) i hi
theorem sv_fxo (g : Nat → Int32) (n : Nat) (x : Int32) (H : ∀ i, i < n → sv_okc (g i)) : ∀ p, sv_oks x p → ∀ i, i < n + sv_ct x p → sv_okc (sv_fx g n x p i)
  | 0 => fun _ => H
  | p + 1 => by
    intro hk i hi
    have hk' : sv_oks x p := fun j hj => hk j (by omega)
    by_cases q : sv_by x (sv_sf p) = 0
    · rw [sv_fx_0 q]
      rw [sv_ct_0 q] at hi
      exact sv_fxo g n x H p hk' i hi
    · rw [sv_fx_1 q]
      rw [sv_ct_1 q] at hi
      exact sv_updk (p := sv_okc) (sv_fxo g n x H p hk') ((hk p (by omega)).resolve_left q) i hi
theorem ab_fs.len' {b : Nat} {k : Int32} {nc np pl tn nr nl : Nat} {lq lf : Int32} {nw : Nat} {fs F : List Value} (H : ab_fs b k nc np pl tn nr nl lq lf nw fs) (h1 : F.length = 71) (h2 : F[16]? = some (.ref (b + 232))) {x : Nat} (h3 : F[17]? = some (.int (nI x))) (h4 : ∀ k, k ≠ 0 → k ≠ 17 → F[k]? = fs[k]?) : ab_fs b k nc np pl x nr nl lq lf nw F := by
  obtain ⟨p0, ⟨r, p1⟩, g0, g1, g2, g3, g4, g5, g6, g7, g8, g9, g10, g11, g12, g13, g14, g15, g16, g17, g18, g19, g20, g21, g22, g23, g24, g25, g26, g27, g28, g29, g30, g31, g32, g33, g34, g35, g36, g37, g38, g39, g40, g41, g42, g43, g44, g45, g46, g47, g48, g49⟩ := H
  exact ⟨h1, ⟨r, (h4 _ (by decide) (by decide)).trans p1⟩, (h4 _ (by decide) (by decide)).trans g0, (h4 _ (by decide) (by decide)).trans g1, (h4 _ (by decide) (by decide)).trans g2, (h4 _ (by decide) (by decide)).trans g3, (h4 _ (by decide) (by decide)).trans g4, (h4 _ (by decide) (by decide)).trans g5, (h4 _ (by decide) (by decide)).trans g6, (h4 _ (by decide) (by decide)).trans g7, (h4 _ (by decide) (by decide)).trans g8, (h4 _ (by decide) (by decide)).trans g9, (h4 _ (by decide) (by decide)).trans g10, (h4 _ (by decide) (by decide)).trans g11, (h4 _ (by decide) (by decide)).trans g12, (h4 _ (by decide) (by decide)).trans g13, (h4 _ (by decide) (by decide)).trans g14, (h4 _ (by decide) (by decide)).trans g15, h3, (h4 _ (by decide) (by decide)).trans g17, (h4 _ (by decide) (by decide)).trans g18, (h4 _ (by decide) (by decide)).trans g19, (h4 _ (by decide) (by decide)).trans g20, (h4 _ (by decide) (by decide)).trans g21, (h4 _ (by decide) (by decide)).trans g22, (h4 _ (by decide) (by decide)).trans g23, (h4 _ (by decide) (by decide)).trans g24, (h4 _ (by decide) (by decide)).trans g25, (h4 _ (by decide) (by decide)).trans g26, (h4 _ (by decide) (by decide)).trans g27, (h4 _ (by decide) (by decide)).trans g28, (h4 _ (by decide) (by decide)).trans g29, (h4 _ (by decide) (by decide)).trans g30, (h4 _ (by decide) (by decide)).trans g31, (h4 _ (by decide) (by decide)).trans g32, (h4 _ (by decide) (by decide)).trans g33, (h4 _ (by decide) (by decide)).trans g34, (h4 _ (by decide) (by decide)).trans g35, (h4 _ (by decide) (by decide)).trans g36, (h4 _ (by decide) (by decide)).trans g37, (h4 _ (by decide) (by decide)).trans g38, (h4 _ (by decide) (by decide)).trans g39, (h4 _ (by decide) (by decide)).trans g40, (h4 _ (by decide) (by decide)).trans g41, (h4 _ (by decide) (by decide)).trans g42, (h4 _ (by decide) (by decide)).trans g43, (h4 _ (by decide) (by decide)).trans g44, (h4 _ (by decide) (by decide)).trans g45, (h4 _ (by decide) (by decide)).trans g46, (h4 _ (by decide) (by decide)).trans g47, (h4 _ (by decide) (by decide)).trans g48, (h4 _ (by decide) (by decide)).trans g49⟩
theorem g_units (G : sv_G) (b : Nat) (w0 : Int32) : OpD G mX12_units mX13_units b (b + 220) [.int w0] (ab_Inv G b) (ab_Inv G b) := by
  intro h z hi
  obtain ⟨k, nc, np, pl, sz, t, u, pa, ma, tn, tp, nr, r, ru, rd, nl, lr, la, fo, fl, nw, wr, lX, lq, lf, mf, fs, ⟨gok, gLay, gAd, gML⟩, ⟨gTp, gMTp⟩, ⟨gRu, gRd, gRl, gRr, gMR⟩, ⟨gLa, gFo, gFl, gLo, gMLa⟩, ⟨gWv, gMWv⟩, ⟨gDk, glq, gmf, glf⟩, ⟨gm, gfs⟩, ⟨gCk, gSc, go⟩⟩ := id hi
  obtain ⟨gru, i1, i2, i3, i4, i5, i6, i7, i8, i9, gla, gfo, gfl⟩ := id gDk.2
  have gz := gAd.1
  obtain ⟨f0, ho⟩ := id go
  obtain ⟨t1, t2, ⟨f, t3, t4⟩, t5⟩ := id gTp
  obtain ⟨f', s1, s2⟩ := id gMTp
  refine ⟨_, c_units G h z b w0 _ _ _ _ _ _ _ _ _ _ _ _ _ (b + 9) tn f t1 gDk.1 t2 t3 (by omega) (by omega) (by omega), fun v h1 z1 hq => ?_⟩
  obtain ⟨rfl, ⟨q1, q2, rfl, e1, e2, e3⟩ | ⟨q1, rfl, rfl⟩⟩ := hq
  · have hm1 := (e3 (b + 220) (by omega) (by omega)).trans gm
    have hT1 := (e3 (b + 232) (by omega) (by omega)).trans s1
    refine ⟨1, rfl, ⟨_, hm1⟩, _, m_units G _ _ _ _ gfs.1 hm1 w0 (b + 232) tn f' t1 gfs.f_tape gfs.f_length hT1 (by omega), fun v2 h2 z2 hq2 => ?_⟩
    obtain ⟨rfl, ⟨p1, p2, rfl, F, k1, k2, k3, k4, k5, k6, k7, k8⟩ | ⟨p1, rfl, rfl⟩⟩ := hq2
    · have e : ∀ a, a ≠ b + 8 → a ≠ b + 9 → a ≠ b + 220 → a ≠ b + 232 → h2 a = h a := fun a q1 q2 q3 q4 => (k8 a q3 q4).trans (e3 a q1 q2)
      exact ⟨rfl, ⟨k, nc, np, pl, sz, t, u, pa, ma, tn + sv_ct w0 4, sv_fx tp tn w0 4, nr, r, ru, rd, nl, lr, la, fo, fl, nw, wr, lX, lq, lf, mf, F, ⟨gok, gLay.kept gAd (fun a q1 q2 => e a (by omega) (by omega) (by omega) (by omega)) (fun a q1 q2 => e a (by omega) (by omega) (by omega) (by omega)), gAd, gML.kept (fun a q1 q2 => e a (by omega) (by omega) (by omega) (by omega))⟩, ⟨⟨q2, (k8 _ (by omega) (by omega)).trans e1, ⟨_, (k8 _ (by omega) (by omega)).trans e2, sv_fxk f tp tn w0 t4 4⟩, sv_fxo tp tn w0 t5 4 q1⟩, ⟨_, k7, sv_fxk f' tp tn w0 s2 4⟩⟩, ⟨gRu.kept (by omega) (fun a q1 q2 => e a (by omega) (by omega) (by omega) (by omega)), gRd.kept (by omega) (fun a q1 q2 => e a (by omega) (by omega) (by omega) (by omega)), gRl.kept (fun a q1 q2 => e a (by omega) (by omega) (by omega) (by omega)), gRr.kept (fun a q1 q2 => e a (by omega) (by omega) (by omega) (by omega)), gMR.kept (fun a q1 q2 => e a (by omega) (by omega) (by omega) (by omega))⟩, ⟨gLa.kept (fun a q1 q2 => e a (by omega) (by omega) (by omega) (by omega)), gFo.kept (fun a q1 q2 => e a (by omega) (by omega) (by omega) (by omega)), gFl.kept (fun a q1 q2 => e a (by omega) (by omega) (by omega) (by omega)), gLo.kept (fun a q1 q2 => e a (by omega) (by omega) (by omega) (by omega)), gMLa.kept (fun a q1 q2 => e a (by omega) (by omega) (by omega) (by omega))⟩, ⟨gWv.kept (fun a q1 q2 => e a (by omega) (by omega) (by omega) (by omega)), gMWv.kept (fun a q1 q2 => e a (by omega) (by omega) (by omega) (by omega))⟩, ⟨gDk.kept (fun a q1 q2 => e a (by omega) (by omega) (by omega) (by omega)), glq, gmf, glf⟩, ⟨k1, gfs.len' k2 k4 k5 k6⟩, ⟨gCk.kept (fun a q1 q2 => e a (by omega) (by omega) (by omega) (by omega)), gSc.kept (fun a q1 q2 => e a (by omega) (by omega) (by omega) (by omega)), ⟨_, (e _ (by omega) (by omega) (by omega) (by omega)).trans ho⟩⟩⟩⟩
    · exact absurd ⟨q1, q2⟩ p1
  · refine ⟨0, rfl, ⟨_, gm⟩, _, m_units G _ _ _ _ gfs.1 gm w0 (b + 232) tn f' t1 gfs.f_tape gfs.f_length s1 (by omega), fun v2 h2 z2 hq2 => ?_⟩
    obtain ⟨rfl, ⟨p1, p2, rfl, F, k1, k2, k3, k4, k5, k6, k7, k8⟩ | ⟨p1, rfl, rfl⟩⟩ := hq2
    · exact absurd ⟨p1, p2⟩ q1
    · exact ⟨rfl, hi.same (Nat.le_refl _) (fun a q1 q2 => sv_un q1) gm sv_us ⟨_, (sv_un (by omega)).trans ho⟩⟩
theorem ab_ok.cells {nc np pl : Nat} {sz : Nat → Nat} {t : Nat → Nat → Int32} {u : Nat → Nat → Nat → Int32} (H : ab_ok nc np pl sz t u) (h : nc < 16) : ab_ok (nc + 1) np pl sz t u := by
  obtain ⟨a1, a2, a3, a4, a5, a6⟩ := H
  refine ⟨by omega, a2, a3, fun p hp => ?_, fun i hi => ?_, a6⟩
  · obtain ⟨b1, ⟨c, b2, b3⟩, b4⟩ := a4 p hp
    exact ⟨b1, ⟨c, by omega, b3⟩, b4⟩
  · obtain ⟨⟨c, b2, b3⟩, ⟨d, b4, b5⟩, b6⟩ := a5 i hi
    exact ⟨⟨c, by omega, b3⟩, ⟨d, by omega, b5⟩, b6⟩
theorem g_cell (G : sv_G) (hl0 : G.1.stackTraces = false) (b : Nat) : OpI G mX12_cell mX13_cell b (b + 220) (b + 261) ["java/lang/IllegalStateException"] [] (ab_Inv G b) (ab_Inv G b) := by
  refine OpI.of fun h z hi => ?_
  obtain ⟨k, nc, np, pl, sz, t, u, pa, ma, tn, tp, nr, r, ru, rd, nl, lr, la, fo, fl, nw, wr, lX, lq, lf, mf, fs, ⟨gok, gLay, gAd, gML⟩, ⟨gTp, gMTp⟩, ⟨gRu, gRd, gRl, gRr, gMR⟩, ⟨gLa, gFo, gFl, gLo, gMLa⟩, ⟨gWv, gMWv⟩, ⟨gDk, glq, gmf, glf⟩, ⟨gm, gfs⟩, ⟨gCk, gSc, go⟩⟩ := id hi
  obtain ⟨gru, i1, i2, i3, i4, i5, i6, i7, i8, i9, gla, gfo, gfl⟩ := id gDk.2
  have gz := gAd.1
  obtain ⟨f0, ho⟩ := id go
  obtain ⟨l1, l2⟩ := id gLay
  have hnc : nc ≤ 16 := gok.1
  by_cases hc : nc = 16
  · refine at_refI 0 hi rfl ((c_cell G hl0 h z b _ _ _ _ _ _ _ _ _ _ _ _ _ _ _ _ _ _ _ _ _ _ _ gDk.1 l1 (by omega)).mono (fun _ _ _ _ q => ?_) (fun _ _ _ _ q => ⟨q.2.1, q.2.2⟩)) gm gfs.1 (fun z1 => m_cell_o G _ _ _ _ gfs.1 gm _ gfs.f_cells (by rw [hc]; rfl))
    exact absurd q.1 (by rw [hc]; decide)
  · intro h0 z0 hp
    obtain ⟨rfl, rfl⟩ := hp
    refine ⟨_, _, c_cell G hl0 h0 z0 b _ _ _ _ _ _ _ _ _ _ _ _ _ _ _ _ _ _ _ _ _ _ _ gDk.1 l1 (by omega), fun v h1 z1 hq => ?_, fun E h1 z1 hq => absurd (nI_lt (a := nc) (b := 16) (by omega) (by omega)) hq.1⟩
    obtain ⟨q1, rfl, rfl, rfl⟩ := hq
    refine ⟨_, rfl, ⟨f0, (sv_un (by omega)).trans ho⟩, by omega, ⟨_, (sv_un (by omega)).trans gm⟩, fun h2 g e1 e2 e3 => ?_⟩
    have hm2 : h2 (b + 220) = some (.inr (11, fs)) := (e3 _ (by omega)).trans ((sv_un (by omega)).trans gm)
    refine ⟨_, m_cell G _ _ _ _ gfs.1 hm2 _ gfs.f_cells (fun q => hc ((nI_eq (b := 16) (by omega) (by omega)).mp q)), fun v2 h3 z3 hq2 => ?_⟩
    obtain ⟨rfl, rfl, rfl⟩ := hq2
    have e : ∀ a, a ≠ b + 1 → a ≠ b + 220 → a ≠ b + 261 → va_up h2 (b + 220) (some (.inr (11, (fs.set 0 (.int 0)).set 2 (.int (nI nc + 1))))) a = h0 a := fun a q1 q2 q3 => (sv_un q2).trans ((e3 a q3).trans (sv_un q1))
    have el : va_up h2 (b + 220) (some (.inr (11, (fs.set 0 (.int 0)).set 2 (.int (nI nc + 1))))) (b + 1) = some (.inr (1, [.int k, .int (nI (nc + 1)), .ref (b + 2), .int (nI np), .ref (b + 3), .ref (b + 4), .ref (b + 5), .int (nI pl), .ref (b + 6), .ref (b + 7)])) := by
      rw [← nI_1]
      exact (sv_un (by omega)).trans ((e3 _ (by omega)).trans sv_us)
    refine ⟨rfl, ⟨_, sv_us, by rw [List.length_set, List.length_set]; exact gfs.1, (List.getElem?_set_ne (by decide)).trans (sv_ls (by rw [gfs.1]; decide))⟩, (sv_un (by omega)).trans e1, ?_⟩
    have gfs' : ab_fs b k (nc + 1) np pl tn nr nl lq mf nw ((fs.set 0 (.int 0)).set 2 (.int (nI nc + 1))) := by rw [nI_1]; exact (gfs.code (.int 0)).cells (nc + 1)
    exact ⟨k, nc + 1, np, pl, sz, t, u, pa, ma, tn, tp, nr, r, ru, rd, nl, lr, la, fo, fl, nw, wr, lX, lq, lf, mf, _, ⟨gok.cells (by omega), (gLay.grow gAd el (fun a q1 q2 => e a (by omega) (by omega) (by omega)) (fun a q1 q2 => e a (by omega) (by omega) (by omega))), gAd, gML.kept (fun a q1 q2 => e a (by omega) (by omega) (by omega))⟩, ⟨gTp.kept (fun a q1 q2 => e a (by omega) (by omega) (by omega)), gMTp.kept (fun a q1 q2 => e a (by omega) (by omega) (by omega))⟩, ⟨gRu.kept (by omega) (fun a q1 q2 => e a (by omega) (by omega) (by omega)), gRd.kept (by omega) (fun a q1 q2 => e a (by omega) (by omega) (by omega)), gRl.kept (fun a q1 q2 => e a (by omega) (by omega) (by omega)), gRr.kept (fun a q1 q2 => e a (by omega) (by omega) (by omega)), gMR.kept (fun a q1 q2 => e a (by omega) (by omega) (by omega))⟩, ⟨gLa.kept (fun a q1 q2 => e a (by omega) (by omega) (by omega)), gFo.kept (fun a q1 q2 => e a (by omega) (by omega) (by omega)), gFl.kept (fun a q1 q2 => e a (by omega) (by omega) (by omega)), gLo.kept (fun a q1 q2 => e a (by omega) (by omega) (by omega)), gMLa.kept (fun a q1 q2 => e a (by omega) (by omega) (by omega))⟩, ⟨gWv.kept (fun a q1 q2 => e a (by omega) (by omega) (by omega)), gMWv.kept (fun a q1 q2 => e a (by omega) (by omega) (by omega))⟩, ⟨gDk.kept (fun a q1 q2 => e a (by omega) (by omega) (by omega)), glq, gmf, glf⟩, ⟨sv_us, gfs'⟩, ⟨gCk.kept (fun a q1 q2 => e a (by omega) (by omega) (by omega)), gSc.kept (fun a q1 q2 => e a (by omega) (by omega) (by omega)), ⟨_, (sv_un (by omega)).trans e1⟩⟩⟩
