set_option maxHeartbeats 4000000 in
set_option maxRecDepth 100000 in
theorem g_same (G : sv_G) (hl0 : G.1.stackTraces = false) (hki : sv_ki G) (b : Nat) (c0 c1 : Int32) : OpZ G mX12_same mX13_same b (b + 220) (b + 261) ["java/lang/IndexOutOfBoundsException", "java/lang/UnsupportedOperationException"] [.int c0, .int c1] (ab_Inv G b) (ab_Inv G b) := by
  refine OpZ.of fun h z hi => ?_
  obtain ⟨k, nc, np, pl, sz, t, u, pa, ma, tn, tp, nr, r, ru, rd, nl, lr, la, fo, fl, nw, wr, lX, lq, lf, mf, fs, ⟨gok, gLay, gAd, gML⟩, ⟨gTp, gMTp⟩, ⟨gRu, gRd, gRl, gRr, gMR⟩, ⟨gLa, gFo, gFl, gLo, gMLa⟩, ⟨gWv, gMWv⟩, ⟨gDk, glq, gmf, glf⟩, ⟨gm, gfs⟩, ⟨gCk, gSc, go⟩⟩ := id hi
  have gz := gAd.1
  obtain ⟨f0, ho⟩ := id go
  have hnr : nr ≤ 20 := gRl.1
  by_cases hg : 0 ≤ c0 ∧ c0 < nI nr
  · obtain ⟨ri, hri, rfl⟩ := sv_idx (by omega) hg
    by_cases hg2 : 0 ≤ c1 ∧ c1 < nI nc
    · obtain ⟨cl, hcl, rfl⟩ := sv_idx (by have := gok.1; omega) hg2
      intro h0 z0 hpt
      obtain ⟨rfl, rfl⟩ := hpt
      obtain ⟨ar, rk, Z9, PX, LH, har⟩ := ab_bridge gLay gAd gok
      obtain ⟨nm, kd, hkd, er0, hrl⟩ := gRl.2 ri hri
      have K := ab_rlk hkd er0 (gmf.2 ri hri)
      obtain ⟨frl, hrow, hfrl⟩ := id gRu
      obtain ⟨gru, y1, y2, y3, j1, j2, j3, j4, j5, j6, gla, gfo, gfl⟩ := id gDk.2
      have hruv : ru = b + 183 ∨ ru = b + 11 := (by omega)
      have hla : b + 204 ≤ la ∧ la + 4 ≤ b + 216 := (by omega)
      have hfo : b + 204 ≤ fo ∧ fo + 4 ≤ b + 216 := (by omega)
      have hfl : b + 204 ≤ fl ∧ fl + 4 ≤ b + 216 := (by omega)
      have hd1 : la + 4 ≤ fo ∨ fo + 4 ≤ la := (by omega)
      have hd2 : la + 4 ≤ fl ∨ fl + 4 ≤ la := (by omega)
      have hd3 : fo + 4 ≤ fl ∨ fl + 4 ≤ fo := (by omega)
      have hg9 : ∀ d, d < 16 → ((grB pl (ab_c3 t) (ab_c4 t) cl) d = true ↔ gr_R pl (ab_c3 t) (ab_c4 t) cl d) := fun d _ => grB_t
      obtain ⟨L1c, L2c, L3c, L4c, L5c, L6c, _⟩ := lcA_all (ly := t 1) LH kd (r 1 ri) (r 2 ri) (r 3 ri) (r 4 ri) (r 5 ri) (r 6 ri) K cl hcl (grB pl (ab_c3 t) (ab_c4 t) cl) hg9
      have n16 : nc ≤ 16 := gok.1
      have hok : ∀ c, c < 16 → ∀ x, x < ((lcA kd (r 1 ri) (r 2 ri) (r 3 ri) (r 4 ri) (r 5 ri) (r 6 ri) np pl (ab_R sz u) (ab_c0 t) (ab_c3 t) (ab_c4 t) (t 1) (t 2) ar (abM t) sz (abX u) (abY u) (abF sz u) (abO sz u) nc (grB pl (ab_c3 t) (ab_c4 t) cl) cl) c).length → rok (((lcA kd (r 1 ri) (r 2 ri) (r 3 ri) (r 4 ri) (r 5 ri) (r 6 ri) np pl (ab_R sz u) (ab_c0 t) (ab_c3 t) (ab_c4 t) (t 1) (t 2) ar (abM t) sz (abX u) (abY u) (abF sz u) (abO sz u) nc (grB pl (ab_c3 t) (ab_c4 t) cl) cl) c).getD x []) := fun c hc x hx => gr_rok (L2c c _ (getD_mem [] hx)) (by omega)
      have hcell : ∀ c, c < 16 → ∀ x, x < ((lcA kd (r 1 ri) (r 2 ri) (r 3 ri) (r 4 ri) (r 5 ri) (r 6 ri) np pl (ab_R sz u) (ab_c0 t) (ab_c3 t) (ab_c4 t) (t 1) (t 2) ar (abM t) sz (abX u) (abY u) (abF sz u) (abO sz u) nc (grB pl (ab_c3 t) (ab_c4 t) cl) cl) c).length → (((lcA kd (r 1 ri) (r 2 ri) (r 3 ri) (r 4 ri) (r 5 ri) (r 6 ri) np pl (ab_R sz u) (ab_c0 t) (ab_c3 t) (ab_c4 t) (t 1) (t 2) ar (abM t) sz (abX u) (abY u) (abF sz u) (abO sz u) nc (grB pl (ab_c3 t) (ab_c4 t) cl) cl) c).getD x []).getD 7 0 = (nI c).toInt64 := fun c hc x hx => (gr_7 (L2c c _ (getD_mem [] hx))).trans (show (nI c).toInt64 = jN (c : Int) from iN_64 (x := (c : Int)) (by omega) (by omega)).symm
      have hNN : (oc_n np pl (ab_R sz u) (ab_c0 t) (ab_c3 t) (ab_c4 t) 16 cl) = (oc_n np pl (ab_R sz u) (ab_c0 t) (ab_c3 t) (ab_c4 t) nc cl) := oc_rk (np := np) (R := ab_R sz u) (hm := ab_c0 t) LH.2.2.2.1 nc cl (LH.2.2.2.2.1 cl hcl) 16 n16
      have hNr : ∀ c, gr_R pl (ab_c3 t) (ab_c4 t) cl c → c < nc := fun c hc => hc (fun d => d < nc) hcl (fun i hi _ => (LH.2.2.2.2.2.1 i hi).2)
      have hN1 : (oc_n np pl (ab_R sz u) (ab_c0 t) (ab_c3 t) (ab_c4 t) 16 cl) ≤ 100 → ∀ c, gr_R pl (ab_c3 t) (ab_c4 t) cl c → oc_n np pl (ab_R sz u) (ab_c0 t) (ab_c3 t) (ab_c4 t) 16 c ≤ 100 := (by
        intro q c hc
        have a := oc_in (np := np) (R := ab_R sz u) (hm := ab_c0 t) LH.2.2.2.1 LH.2.2.2.2.1 LH.2.2.2.2.2.1 hc
        have d := oc_rk (np := np) (R := ab_R sz u) (hm := ab_c0 t) LH.2.2.2.1 nc c (LH.2.2.2.2.1 c (hNr c hc)) 16 n16
        omega)
      obtain ⟨gt0, gt1_, gt2_⟩ := id gMLa
      obtain ⟨wf, wf1, wf2⟩ := id gMWv
      have hnw : nw ≤ 40 := gWv.1
      obtain ⟨sUF, _, _, _, _, _, _, _, _, _, _, _, _, _, _, s58, s59, s60⟩ := id gSc
      have e60 : fs[60]? = some (fs[60]'(by rw [gfs.1]; decide)) := List.getElem?_eq_getElem _
      have h16 : ∀ c, (lcA kd (r 1 ri) (r 2 ri) (r 3 ri) (r 4 ri) (r 5 ri) (r 6 ri) np pl (ab_R sz u) (ab_c0 t) (ab_c3 t) (ab_c4 t) (t 1) (t 2) ar (abM t) sz (abX u) (abY u) (abF sz u) (abO sz u) nc (grB pl (ab_c3 t) (ab_c4 t) cl) cl) c ≠ [] → c < 16 := fun c q => Nat.lt_of_lt_of_le (lcA_nc kd (r 1 ri) (r 2 ri) (r 3 ri) (r 4 ri) (r 5 ri) (r 6 ri) (grB pl (ab_c3 t) (ab_c4 t) cl) hcl c q) n16
      have L6d : (fiQ 0 kd (r 1 ri) (r 2 ri) (r 3 ri) (r 4 ri) (r 5 ri) (r 6 ri) nc np pl (ab_R sz u) (ab_c0 t) (ab_c3 t) (ab_c4 t) (t 1) (t 2) (abM t) sz (abX u) (abY u) (grB pl (ab_c3 t) (ab_c4 t) cl) cl).Perm ((List.range 16).flatMap (lcA kd (r 1 ri) (r 2 ri) (r 3 ri) (r 4 ri) (r 5 ri) (r 6 ri) np pl (ab_R sz u) (ab_c0 t) (ab_c3 t) (ab_c4 t) (t 1) (t 2) ar (abM t) sz (abX u) (abY u) (abF sz u) (abO sz u) nc (grB pl (ab_c3 t) (ab_c4 t) cl) cl)) := (by rw [← L1c]; exact L6c)
      have hEg9 := sm_eg (Z := fun i => oc_n np pl (ab_R sz u) (ab_c0 t) (ab_c3 t) (ab_c4 t) 16 (ab_c4 t i) = 0) L2c (lcA_nc kd (r 1 ri) (r 2 ri) (r 3 ri) (r 4 ri) (r 5 ri) (r 6 ri) (grB pl (ab_c3 t) (ab_c4 t) cl) hcl) (fun i hi hg hz => L3c i hi hg ((oc_rk (np := np) (R := ab_R sz u) (hm := ab_c0 t) LH.2.2.2.1 nc (ab_c4 t i) (LH.2.2.2.2.1 _ (LH.2.2.2.2.2.1 i hi).2) 16 n16).symm.trans hz)) wr nw (nI ri) L6d L5c
      have hAll9 := sm_al L2c h16 wr nw (nI ri) L6d L5c
      by_cases hgood : (oc_n np pl (ab_R sz u) (ab_c0 t) (ab_c3 t) (ab_c4 t) nc cl) ≤ 100 ∧ (fiQ 1 kd (r 1 ri) (r 2 ri) (r 3 ri) (r 4 ri) (r 5 ri) (r 6 ri) nc np pl (ab_R sz u) (ab_c0 t) (ab_c3 t) (ab_c4 t) (t 1) (t 2) (abM t) sz (abX u) (abY u) (grB pl (ab_c3 t) (ab_c4 t) cl) cl).length ≤ 1500
      · have sm : (fiQ 1 kd (r 1 ri) (r 2 ri) (r 3 ri) (r 4 ri) (r 5 ri) (r 6 ri) nc np pl (ab_R sz u) (ab_c0 t) (ab_c3 t) (ab_c4 t) (t 1) (t 2) (abM t) sz (abX u) (abY u) (grB pl (ab_c3 t) (ab_c4 t) cl) cl).length ≤ 1500 := hgood.2
        have hEB : (jCol kd (r 1 ri) (r 2 ri) (r 3 ri) (r 4 ri) (r 5 ri) (r 6 ri) np pl (ab_R sz u) (ab_c0 t) (ab_c3 t) (ab_c4 t) (t 1) (t 2) ar (abM t) sz (abX u) (abY u) (abF sz u) (abO sz u) nc (grB pl (ab_c3 t) (ab_c4 t) cl) cl).length ≤ 1500 := (by have := L4c; have := L5c.length_eq; omega)
        have hE0 : (fiQ 0 kd (r 1 ri) (r 2 ri) (r 3 ri) (r 4 ri) (r 5 ri) (r 6 ri) nc np pl (ab_R sz u) (ab_c0 t) (ab_c3 t) (ab_c4 t) (t 1) (t 2) (abM t) sz (abX u) (abY u) (grB pl (ab_c3 t) (ab_c4 t) cl) cl).length ≤ 1500 := (by have := L6c.length_eq; omega)
        have hEF : (lS pl (ab_c3 t) (ab_c4 t) (abM t) (lcA kd (r 1 ri) (r 2 ri) (r 3 ri) (r 4 ri) (r 5 ri) (r 6 ri) np pl (ab_R sz u) (ab_c0 t) (ab_c3 t) (ab_c4 t) (t 1) (t 2) ar (abM t) sz (abX u) (abY u) (abF sz u) (abO sz u) nc (grB pl (ab_c3 t) (ab_c4 t) cl) cl) 16 cl []).length ≤ 1500 := (by have := L5c.length_eq; omega)
        refine ⟨_, _, c_sameD G hl0 hki h0 z0 b k nc np pl (ab_R sz u) (ab_c0 t) (ab_c3 t) (ab_c4 t) pa ma sz (t 1) (t 2) ar (abM t) Z9 (abX u) (abY u) (abF sz u) (abO sz u) PX gCk ru nr frl hrow (fun j hj => (hfrl j hj).1) hruv ri hri hnr nm kd hkd (r 1 ri) (r 2 ri) (r 3 ri) (r 4 ri) (r 5 ri) (r 6 ri) hrl la fo fl hla hfo hfl hd1 hd2 hd3 lX lf gDk.1 gFo gFl nw wr gWv LH.2.2.2.2.2.2.1 LH.2.2.2.2.2.2.2.1 har rk LH.2.2.2.1 LH.2.2.2.2.1 cl hcl (grB pl (ab_c3 t) (ab_c4 t) cl) hg9 (lcA kd (r 1 ri) (r 2 ri) (r 3 ri) (r 4 ri) (r 5 ri) (r 6 ri) np pl (ab_R sz u) (ab_c0 t) (ab_c3 t) (ab_c4 t) (t 1) (t 2) ar (abM t) sz (abX u) (abY u) (abF sz u) (abO sz u) nc (grB pl (ab_c3 t) (ab_c4 t) cl) cl) L1c hok hcell L3c gLo hgood.1 hEB hEF (fun L1 hp hs => ?_), fun v h1 z1 hq => ?_, fun E h1 z1 hq => hq.elim⟩
        · rw [L1c] at hp
          obtain ⟨Lq, q1, q2, q3, q4, q5, q6, q7⟩ := sm_all (Z := fun i => gr_R pl (ab_c3 t) (ab_c4 t) cl (ab_c3 t i) ∧ oc_n np pl (ab_R sz u) (ab_c0 t) (ab_c3 t) (ab_c4 t) nc (ab_c4 t i) = 0) L2c h16 (fun i hi hz => L3c i hi hz.1 hz.2) hEF wr nw (nI ri) L1 hp hs
          exact ⟨Lq, q1, q2, q3, fun i hi a c => q4 i hi ⟨a, c⟩, q5, q6, q7⟩
        obtain ⟨rfl, rfl, AF, AG, ALo, e6, e7, Ck1, W8, fr1⟩ := hq
        have FM : ∀ a, b + 220 ≤ a → h1 a = h0 a := fun a q => fr1 a (by omega) (by omega) (by omega) (by omega) (by omega) (by omega) (by omega)
        refine ⟨1, rfl, ⟨f0, (FM _ (by omega)).trans ho⟩, by omega, ⟨_, (FM _ (by omega)).trans gm⟩, fun h2 g9 e1 e2 e3 => ?_⟩
        have FM2 : ∀ a, b + 220 ≤ a → a < b + 261 → h2 a = h0 a := fun a q1 q2 => (e3 a (by omega)).trans (FM a q1)
        refine ⟨_, (m_same (gu := gt0) G z1 b nc np pl (ab_R sz u) (ab_c0 t) (ab_c3 t) (ab_c4 t) sz (t 1) (t 2) (abM t) (abX u) (abY u) h2 fs (ab_fs_mfq gfs) ((ab_myl gML gok).kp (fun a q1 q2 => FM2 a (by omega) (by omega))) (ab_XY gok).1 (ab_XY gok).2 rk LH.2.2.2.1 LH.2.2.2.2.1 (fun c _ => lyh_ok LH c) ri kd (r 1 ri) (r 2 ri) (r 3 ri) (r 4 ri) (r 5 ri) (r 6 ri) ((ab_mru gMR hri hnr hkd er0).kp (fun a q1 q2 => FM2 a (by omega) (by omega))) (gmf.2 ri hri).2.1 (fun _ => 0) (fun _ => 0) (fun _ _ => (0, 0)) cl hcl hN1 (fun _ => wh_w LH cl) (grB pl (ab_c3 t) (ab_c4 t) cl) hg9 nw hnw gfs.f_waived wr wf ((FM2 _ (by omega) (by omega)).trans wf1) wf2 hEg9 hAll9 (lyh_mb LH) _ e60 gt0 ((FM2 _ (by omega) (by omega)).trans gt1_) (fun _ _ => rfl) (by obtain ⟨f, q⟩ := sUF; exact ⟨f, (FM2 _ (by omega) (by omega)).trans q⟩) ((ab_msc gSc).kp (fun a q1 q2 => FM2 a (by omega) (by omega))) (by obtain ⟨f, q⟩ := s59; exact ⟨f, (FM2 _ (by omega) (by omega)).trans q⟩) (by obtain ⟨f, q⟩ := s60; exact ⟨f, (FM2 _ (by omega) (by omega)).trans q⟩) ((FM2 _ (by omega) (by omega)).trans gm) nr hnr hri gfs.f_rules gfs.2.1), fun v2 h3 z3 hq2 => ?_⟩
        obtain ⟨rfl, fs3, r1, r2, r58, rE, r3, ⟨r4, r5, r6, r7, gt3, rt, ru3⟩, r8⟩ := hq2
        have k0 : ∀ a, a ≠ b + 220 → a ≠ b + 241 → ¬ (b + 243 ≤ a ∧ a < b + 261) → a ≠ b + 261 → h3 a = h1 a := fun a q1 q2 q3 q4 => (r3 a q1 q2 (by omega) (by omega) (by omega)).trans (e3 a q4)
        rcases r8 with ⟨rb, _⟩ | ⟨_, _, _, rv, rc0⟩
        · exact absurd (rb (by rw [hNN]; exact hgood.1)) (by omega)
        · refine ⟨rv, ⟨fs3, r1, r2, rc0⟩, (r3 _ (by omega) (by omega) (by omega) (by omega) (by omega)).trans e1, ?_⟩
          exact ab_Inv_r9 (nl5 := nl) (lr5 := lr) (la5 := la) (fo5 := fo) (fl5 := fl) (lX5 := lX) (lq5 := lq) (lf5 := lf) (mf5 := mf) (fs5 := fs3) gok gLay gAd gML gTp gMTp gRu gRd gRl gRr gMR gWv gMWv gDk.2.1 gmf.2
            (fun a q1 q2 q3 q4 q5 q6 q7 q8 => (k0 a (by omega) (by omega) (by omega) (by omega)).trans (fr1 a q2 q3 q4 q5 (by omega) (by omega) (by omega)))
            (by obtain ⟨f, q⟩ := e6; exact ⟨f, (k0 _ (by omega) (by omega) (by omega) (by omega)).trans q⟩) (by obtain ⟨f, q⟩ := e7; exact ⟨f, (k0 _ (by omega) (by omega) (by omega) (by omega)).trans q⟩) (by obtain ⟨f, q⟩ := W8; exact ⟨f, (k0 _ (by omega) (by omega) (by omega) (by omega)).trans q⟩)
            (gLa.kept (fun a q1 q2 => (k0 a (by omega) (by omega) (by omega) (by omega)).trans (fr1 a (by omega) (by omega) (by omega) (by omega) (by omega) (by omega) (by omega)))) (AF.kept (fun a q1 q2 => (k0 a (by omega) (by omega) (by omega) (by omega)))) (AG.kept (fun a q1 q2 => (k0 a (by omega) (by omega) (by omega) (by omega)))) (ALo.kept (fun a q1 q2 => (k0 a (by omega) (by omega) (by omega) (by omega))))
            ⟨gt3, rt, fun k9 hk9 j9 hj9 => (ru3 _ (by omega)).trans (gt2_ k9 hk9 j9 hj9)⟩
            ⟨(k0 _ (by omega) (by omega) (by omega) (by omega)).trans ((fr1 _ (by omega) (by omega) (by omega) (by omega) (by omega) (by omega) (by omega)).trans gDk.1), gDk.2⟩
            glq gmf.1 glf r1
            (ab_fs_to gfs r2 rE (by decide) r58 ((rE 30 (by decide)).trans gfs.f_latest) ((rE 31 (by decide)).trans gfs.f_latestRule) ((rE 32 (by decide)).trans gfs.f_latestFlat))
            (Ck1.kept (fun a q1 q2 => (k0 a (by omega) (by omega) (by omega) (by omega))))
            (msc_ab r5 r4 (by obtain ⟨f, q⟩ := s58; exact ⟨f, (r3 _ (by omega) (by omega) (by omega) (by omega) (by omega)).trans ((FM2 _ (by omega) (by omega)).trans q)⟩) r6 r7)
            ⟨_, (r3 _ (by omega) (by omega) (by omega) (by omega) (by omega)).trans e1⟩
      · have hthr : CX G mX12_same [.ref b, .int (nI ri), .int (nI cl)] h0 z0 (fun _ _ _ => False) (fun E h3 z3 => E = "java/lang/UnsupportedOperationException" ∧ ab_any G h3 fo ∧ ab_any G h3 fl ∧ ab_any G h3 (b + 216) ∧ (∃ f, ab_I G h3 (b + 6) 16 f) ∧ (∃ f, ab_I G h3 (b + 7) 16 f) ∧ ab_Chk G h3 b ∧ (∃ f, ab_J G h3 (b + 182) 8 f) ∧ (∀ a, a ≠ b + 6 → a ≠ b + 7 → ¬ (b + 32 ≤ a ∧ a < b + 180) → a ≠ b + 182 → ¬ (fo ≤ a ∧ a < fo + 4) → ¬ (fl ≤ a ∧ a < fl + 4) → ¬ (b + 216 ≤ a ∧ a < b + 220) → h3 a = h0 a)) := (by
          by_cases hN : (oc_n np pl (ab_R sz u) (ab_c0 t) (ab_c3 t) (ab_c4 t) nc cl) ≤ 100
          · by_cases hEB : (jCol kd (r 1 ri) (r 2 ri) (r 3 ri) (r 4 ri) (r 5 ri) (r 6 ri) np pl (ab_R sz u) (ab_c0 t) (ab_c3 t) (ab_c4 t) (t 1) (t 2) ar (abM t) sz (abX u) (abY u) (abF sz u) (abO sz u) nc (grB pl (ab_c3 t) (ab_c4 t) cl) cl).length ≤ 1500
            · exact c_sameC G hl0 hki h0 z0 b k nc np pl (ab_R sz u) (ab_c0 t) (ab_c3 t) (ab_c4 t) pa ma sz (t 1) (t 2) ar (abM t) Z9 (abX u) (abY u) (abF sz u) (abO sz u) PX gCk ru nr frl hrow (fun j hj => (hfrl j hj).1) hruv ri hri hnr nm kd hkd (r 1 ri) (r 2 ri) (r 3 ri) (r 4 ri) (r 5 ri) (r 6 ri) hrl la fo fl hla hfo hfl hd1 hd2 hd3 lX lf gDk.1 gFo gFl nw wr gWv LH.2.2.2.2.2.2.1 LH.2.2.2.2.2.2.2.1 har rk LH.2.2.2.1 LH.2.2.2.2.1 cl hcl (grB pl (ab_c3 t) (ab_c4 t) cl) hg9 (lcA kd (r 1 ri) (r 2 ri) (r 3 ri) (r 4 ri) (r 5 ri) (r 6 ri) np pl (ab_R sz u) (ab_c0 t) (ab_c3 t) (ab_c4 t) (t 1) (t 2) ar (abM t) sz (abX u) (abY u) (abF sz u) (abO sz u) nc (grB pl (ab_c3 t) (ab_c4 t) cl) cl) L1c hok hcell L3c gLo hN hEB (by have := L5c.length_eq; omega)
            · exact c_sameB G hl0 hki h0 z0 b k nc np pl (ab_R sz u) (ab_c0 t) (ab_c3 t) (ab_c4 t) pa ma sz (t 1) (t 2) ar (abM t) Z9 (abX u) (abY u) (abF sz u) (abO sz u) PX gCk ru nr frl hrow (fun j hj => (hfrl j hj).1) hruv ri hri hnr nm kd hkd (r 1 ri) (r 2 ri) (r 3 ri) (r 4 ri) (r 5 ri) (r 6 ri) hrl la fo fl hla hfo hfl hd1 hd2 hd3 lX lf gDk.1 gFo gFl nw wr gWv LH.2.2.2.2.2.2.1 LH.2.2.2.2.2.2.2.1 har rk LH.2.2.2.1 LH.2.2.2.2.1 cl hcl (grB pl (ab_c3 t) (ab_c4 t) cl) hg9 (lcA kd (r 1 ri) (r 2 ri) (r 3 ri) (r 4 ri) (r 5 ri) (r 6 ri) np pl (ab_R sz u) (ab_c0 t) (ab_c3 t) (ab_c4 t) (t 1) (t 2) ar (abM t) sz (abX u) (abY u) (abF sz u) (abO sz u) nc (grB pl (ab_c3 t) (ab_c4 t) cl) cl) L1c hok hcell L3c gLo hN (by omega)
          · exact c_sameA G hl0 hki h0 z0 b k nc np pl (ab_R sz u) (ab_c0 t) (ab_c3 t) (ab_c4 t) pa ma sz (t 1) (t 2) ar (abM t) Z9 (abX u) (abY u) (abF sz u) (abO sz u) PX gCk ru nr frl hrow (fun j hj => (hfrl j hj).1) hruv ri hri hnr nm kd hkd (r 1 ri) (r 2 ri) (r 3 ri) (r 4 ri) (r 5 ri) (r 6 ri) hrl la fo fl hla hfo hfl hd1 hd2 hd3 lX lf gDk.1 gFo gFl nw wr gWv LH.2.2.2.2.2.2.1 LH.2.2.2.2.2.2.2.1 har rk LH.2.2.2.1 LH.2.2.2.2.1 cl hcl (grB pl (ab_c3 t) (ab_c4 t) cl) hg9 (lcA kd (r 1 ri) (r 2 ri) (r 3 ri) (r 4 ri) (r 5 ri) (r 6 ri) np pl (ab_R sz u) (ab_c0 t) (ab_c3 t) (ab_c4 t) (t 1) (t 2) ar (abM t) sz (abX u) (abY u) (abF sz u) (abO sz u) nc (grB pl (ab_c3 t) (ab_c4 t) cl) cl) L1c hok hcell L3c gLo (by omega))
        refine ⟨_, _, hthr.mono (Qr' := fun _ _ _ => False) (Qx' := fun E h1 z1 => z0 ≤ z1 ∧ ((fun E h3 z3 => E = "java/lang/UnsupportedOperationException" ∧ ab_any G h3 fo ∧ ab_any G h3 fl ∧ ab_any G h3 (b + 216) ∧ (∃ f, ab_I G h3 (b + 6) 16 f) ∧ (∃ f, ab_I G h3 (b + 7) 16 f) ∧ ab_Chk G h3 b ∧ (∃ f, ab_J G h3 (b + 182) 8 f) ∧ (∀ a, a ≠ b + 6 → a ≠ b + 7 → ¬ (b + 32 ≤ a ∧ a < b + 180) → a ≠ b + 182 → ¬ (fo ≤ a ∧ a < fo + 4) → ¬ (fl ≤ a ∧ a < fl + 4) → ¬ (b + 216 ≤ a ∧ a < b + 220) → h3 a = h0 a))) E h1 z1) (fun _ _ _ _ q => q) (fun E h1 z1 q1 q2 => ⟨q1, q2⟩), fun v h1 z1 hq => hq.elim, fun E h1 z1 hq => ?_⟩
        obtain ⟨hz, rfl, AF, AG, ALo, e6, e7, Ck1, W8, fr1⟩ := hq
        have FM : ∀ a, b + 220 ≤ a → h1 a = h0 a := fun a q => fr1 a (by omega) (by omega) (by omega) (by omega) (by omega) (by omega) (by omega)
        have FM2 : ∀ a, b + 220 ≤ a → a < b + 261 → h1 a = h0 a := fun a q1 _ => FM a q1
        refine ⟨1, rfl, ⟨fs, (FM _ (by omega)).trans gm⟩, _, (m_same (gu := gt0) G z1 b nc np pl (ab_R sz u) (ab_c0 t) (ab_c3 t) (ab_c4 t) sz (t 1) (t 2) (abM t) (abX u) (abY u) h1 fs (ab_fs_mfq gfs) ((ab_myl gML gok).kp (fun a q1 q2 => FM2 a (by omega) (by omega))) (ab_XY gok).1 (ab_XY gok).2 rk LH.2.2.2.1 LH.2.2.2.2.1 (fun c _ => lyh_ok LH c) ri kd (r 1 ri) (r 2 ri) (r 3 ri) (r 4 ri) (r 5 ri) (r 6 ri) ((ab_mru gMR hri hnr hkd er0).kp (fun a q1 q2 => FM2 a (by omega) (by omega))) (gmf.2 ri hri).2.1 (fun _ => 0) (fun _ => 0) (fun _ _ => (0, 0)) cl hcl hN1 (fun _ => wh_w LH cl) (grB pl (ab_c3 t) (ab_c4 t) cl) hg9 nw hnw gfs.f_waived wr wf ((FM2 _ (by omega) (by omega)).trans wf1) wf2 hEg9 hAll9 (lyh_mb LH) _ e60 gt0 ((FM2 _ (by omega) (by omega)).trans gt1_) (fun _ _ => rfl) (by obtain ⟨f, q⟩ := sUF; exact ⟨f, (FM2 _ (by omega) (by omega)).trans q⟩) ((ab_msc gSc).kp (fun a q1 q2 => FM2 a (by omega) (by omega))) (by obtain ⟨f, q⟩ := s59; exact ⟨f, (FM2 _ (by omega) (by omega)).trans q⟩) (by obtain ⟨f, q⟩ := s60; exact ⟨f, (FM2 _ (by omega) (by omega)).trans q⟩) ((FM2 _ (by omega) (by omega)).trans gm) nr hnr hri gfs.f_rules gfs.2.1), fun v2 h3 z3 hq2 => ?_⟩
        obtain ⟨rfl, fs3, r1, r2, r58, rE, r3, ⟨r4, r5, r6, r7, gt3, rt, ru3⟩, r8⟩ := hq2
        rcases r8 with ⟨_, rv, rc0⟩ | ⟨rg1, rg2, _⟩
        · refine ⟨⟨0, rv⟩, ⟨fs3, r1, r2, rc0⟩, ?_⟩
          have k0 : ∀ a, a ≠ b + 220 → a ≠ b + 241 → ¬ (b + 243 ≤ a ∧ a < b + 261) → h3 a = h1 a := fun a q1 q2 q3 => r3 a q1 q2 (by omega) (by omega) (by omega)
          exact ab_Inv_r9 (nl5 := nl) (lr5 := lr) (la5 := la) (fo5 := fo) (fl5 := fl) (lX5 := lX) (lq5 := lq) (lf5 := lf) (mf5 := mf) (fs5 := fs3) gok gLay (gAd.mono hz) gML gTp gMTp gRu gRd gRl gRr gMR gWv gMWv gDk.2.1 gmf.2
            (fun a q1 q2 q3 q4 q5 q6 q7 q8 => (k0 a (by omega) (by omega) (by omega)).trans (fr1 a q2 q3 q4 q5 (by omega) (by omega) (by omega)))
            (by obtain ⟨f, q⟩ := e6; exact ⟨f, (k0 _ (by omega) (by omega) (by omega)).trans q⟩) (by obtain ⟨f, q⟩ := e7; exact ⟨f, (k0 _ (by omega) (by omega) (by omega)).trans q⟩) (by obtain ⟨f, q⟩ := W8; exact ⟨f, (k0 _ (by omega) (by omega) (by omega)).trans q⟩)
            (gLa.kept (fun a q1 q2 => (k0 a (by omega) (by omega) (by omega)).trans (fr1 a (by omega) (by omega) (by omega) (by omega) (by omega) (by omega) (by omega)))) (AF.kept (fun a q1 q2 => (k0 a (by omega) (by omega) (by omega)))) (AG.kept (fun a q1 q2 => (k0 a (by omega) (by omega) (by omega)))) (ALo.kept (fun a q1 q2 => (k0 a (by omega) (by omega) (by omega))))
            ⟨gt3, rt, fun k9 hk9 j9 hj9 => (ru3 _ (by omega)).trans (gt2_ k9 hk9 j9 hj9)⟩
            ⟨(k0 _ (by omega) (by omega) (by omega)).trans ((fr1 _ (by omega) (by omega) (by omega) (by omega) (by omega) (by omega) (by omega)).trans gDk.1), gDk.2⟩
            glq gmf.1 glf r1
            (ab_fs_to gfs r2 rE (by decide) r58 ((rE 30 (by decide)).trans gfs.f_latest) ((rE 31 (by decide)).trans gfs.f_latestRule) ((rE 32 (by decide)).trans gfs.f_latestFlat))
            (Ck1.kept (fun a q1 q2 => (k0 a (by omega) (by omega) (by omega))))
            (msc_ab r5 r4 (by obtain ⟨f, q⟩ := s58; exact ⟨f, (r3 _ (by omega) (by omega) (by omega) (by omega) (by omega)).trans ((FM2 _ (by omega) (by omega)).trans q)⟩) r6 r7)
            ⟨f0, (r3 _ (by omega) (by omega) (by omega) (by omega) (by omega)).trans ((FM _ (by omega)).trans ho)⟩
        · exact absurd ⟨by rw [← hNN]; exact rg1, rg2⟩ hgood
    · exact at_refZ 0 hi rfl (c_same_o2 G hl0 h z b ru nr la fo fl lX lf gDk.1 ri hri hnr _ _ _ _ _ _ k (nI nc) (nI np) (nI pl) gLay.1 c1 hg2) gm gfs.1 (fun z1 => m_same_o2 G h z1 b fs gfs.1 gm ri nr hri hnr gfs.f_rules c1 (nI nc) gfs.f_cells hg2)
  · exact at_refZ 0 hi rfl (c_same_o G hl0 h z b _ _ _ _ _ _ _ _ _ _ _ _ _ gDk.1 c0 c1 hg) gm gfs.1 (fun z1 => m_same_o G h z1 (b + 220) fs gfs.1 gm c0 c1 (nI nr) gfs.f_rules hg)
