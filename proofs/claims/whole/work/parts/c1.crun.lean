set_option maxRecDepth 20000 in
set_option maxRecDepth 20000 in
theorem ggX12_run_X1_collect_p0 : GoodIn wsX12_run [.code yX1_collect cX1_collect 6 (some .boolean)] := goodIn_r _ [30] (by decide +kernel) (by decide +kernel)
set_option maxRecDepth 20000 in
theorem ggX12_run_X1_collect_p1 : GoodIn wsX12_run wsX1_collect_r1 := goodIn_r _ [31, 32, 33, 34, 35, 36, 37, 38, 39, 40, 41, 23, 42, 43, 25, 44, 45, 46, 47, 48, 49, 50, 51, 52] (by decide +kernel) (by decide +kernel)
set_option maxRecDepth 20000 in
theorem ggX12_run_X1_collect_p2 : GoodIn wsX12_run wsX1_collect_r2 := goodIn_r _ [53, 54, 55, 56, 57, 58, 59, 60, 61, 62, 63, 64, 65, 66, 67, 68, 69, 70, 71, 72, 73, 74, 29, 75] (by decide +kernel) (by decide +kernel)
set_option maxRecDepth 20000 in
theorem ggX12_run_X1_collect_p3 : GoodIn wsX12_run wsX1_collect_r3 := goodIn_r _ [76, 77, 78, 79, 80, 81, 82, 83, 84, 85, 86, 87, 88, 89, 90, 91, 92, 93, 94, 95, 96, 97, 98, 99] (by decide +kernel) (by decide +kernel)
set_option maxRecDepth 20000 in
theorem ggX12_run_X1_collect_p4 : GoodIn wsX12_run wsX1_collect_r4 := goodIn_r _ [100, 101, 102, 103, 104, 105, 106, 107, 108, 109, 110, 111, 112, 113, 114, 115, 116, 117, 118, 119, 120, 121, 122, 123] (by decide +kernel) (by decide +kernel)
set_option maxRecDepth 20000 in
theorem ggX12_run_X1_collect_p5 : GoodIn wsX12_run wsX1_collect_r5 := goodIn_r _ [124, 125, 126, 127, 128, 129, 130, 131, 132, 133, 134, 135, 136, 137, 138, 139, 140, 141, 142, 143, 144, 145, 146, 147] (by decide +kernel) (by decide +kernel)
set_option maxRecDepth 20000 in
theorem ggX12_run_X1_collect_p6 : GoodIn wsX12_run wsX1_collect_r6 := goodIn_r _ [148, 149, 150, 151, 152, 153, 154, 155, 156, 157, 158, 159, 160, 161, 162, 163, 164, 165, 166, 167, 168, 169, 170, 171] (by decide +kernel) (by decide +kernel)
set_option maxRecDepth 20000 in
theorem ggX12_run_X1_collect_p7 : GoodIn wsX12_run wsX1_collect_r7 := goodIn_r _ [172, 173, 174, 175, 176, 177, 178, 179, 180, 181, 182, 183, 184, 185, 186, 187, 188, 189, 190, 191, 192, 193, 194, 195] (by decide +kernel) (by decide +kernel)
set_option maxRecDepth 20000 in
theorem ggX12_run_X1_collect_p8 : GoodIn wsX12_run wsX1_collect_r8 := goodIn_r _ [196, 197, 198, 199, 200, 201, 202, 203, 204, 205, 206, 207, 208, 209, 210, 211, 212, 213, 214, 215, 216, 217, 218, 219] (by decide +kernel) (by decide +kernel)
set_option maxRecDepth 20000 in
theorem ggX12_run_X1_collect_p9 : GoodIn wsX12_run wsX1_collect_r9 := goodIn_r _ [220, 221, 222, 223, 224, 225, 226, 227, 228, 229, 230, 231, 232, 233, 234, 235, 236, 237, 238, 239, 240, 241, 242, 243] (by decide +kernel) (by decide +kernel)
set_option maxRecDepth 20000 in
theorem ggX12_run_X1_collect_p10 : GoodIn wsX12_run wsX1_collect_r10 := goodIn_r _ [244, 245, 246, 247, 248, 249, 250, 251, 252, 253, 254, 255, 256, 257, 258, 259, 260, 261, 262, 263, 264, 265, 266, 267] (by decide +kernel) (by decide +kernel)
set_option maxRecDepth 20000 in
theorem ggX12_run_X1_collect_p11 : GoodIn wsX12_run wsX1_collect_r11 := goodIn_r _ [268, 269, 270, 271, 272, 273, 274, 275, 276, 277, 278, 279, 280, 281, 282, 283, 284, 285, 286, 287, 288, 289, 290, 291] (by decide +kernel) (by decide +kernel)
set_option maxRecDepth 20000 in
theorem ggX12_run_X1_collect_p12 : GoodIn wsX12_run wsX1_collect_r12 := goodIn_r _ [292, 293, 294, 295, 296, 297, 298, 299, 300, 301, 302, 303, 304, 305, 306, 307, 308, 309, 310, 311, 312, 313, 314, 315] (by decide +kernel) (by decide +kernel)
set_option maxRecDepth 20000 in
theorem ggX12_run_X1_collect_p13 : GoodIn wsX12_run wsX1_collect_r13 := goodIn_r _ [316, 317, 318, 319, 320, 321, 322, 323, 324, 325, 326, 327, 328, 329, 330, 331, 332, 333, 334, 335, 336] (by decide +kernel) (by decide +kernel)
theorem ggX12_run_X1_collect_p14 : GoodIn wsX12_run wsX10 := goodIn_sub iwX12_run_X1 (by decide +kernel)
theorem ggX12_run_X1_collect_p15 : GoodIn wsX12_run wsX70 := goodIn_sub iwX12_run_X7 (by decide +kernel)
theorem ggX12_run_X1_collect_p16 : GoodIn wsX12_run wsX30 := goodIn_sub iwX12_run_X3 (by decide +kernel)
theorem ggX12_run_X1_collect_p17 : GoodIn wsX12_run wsX100 := goodIn_sub iwX12_run_X10 (by decide +kernel)
theorem ggX12_run_X1_collect_p18 : GoodIn wsX12_run wsX50 := goodIn_sub iwX12_run_X5 (by decide +kernel)
theorem ggX12_run_X1_collect_p19 : GoodIn wsX12_run wsX80 := goodIn_sub iwX12_run_X8 (by decide +kernel)
theorem ggX12_run_X1_collect_p20 : GoodIn wsX12_run wsX40 := goodIn_sub iwX12_run_X4 (by decide +kernel)
theorem ggX12_run_X1_collect : GoodIn wsX12_run wsX1_collect := goodIn_cn ggX12_run_X1_collect_p0 (goodIn_app (goodIn_app (goodIn_app (goodIn_app (goodIn_app (goodIn_app (goodIn_app (goodIn_app ggX12_run_X1_collect_p1 (goodIn_app ggX12_run_X1_collect_p2 (goodIn_app ggX12_run_X1_collect_p3 (goodIn_app ggX12_run_X1_collect_p4 (goodIn_app ggX12_run_X1_collect_p5 (goodIn_app ggX12_run_X1_collect_p6 (goodIn_app ggX12_run_X1_collect_p7 (goodIn_app ggX12_run_X1_collect_p8 (goodIn_app ggX12_run_X1_collect_p9 (goodIn_app ggX12_run_X1_collect_p10 (goodIn_app ggX12_run_X1_collect_p11 (goodIn_app ggX12_run_X1_collect_p12 ggX12_run_X1_collect_p13)))))))))))) ggX12_run_X1_collect_p14) ggX12_run_X1_collect_p15) ggX12_run_X1_collect_p16) ggX12_run_X1_collect_p17) ggX12_run_X1_collect_p18) ggX12_run_X1_collect_p19) ggX12_run_X1_collect_p20)
set_option maxRecDepth 20000 in
theorem gX12_run_X1_collect : GoodIn wsX12_run (wsV RX12 194 RX1 yX1_collect wsX1_collect) := goodIn_app (goodIn_of _ (by decide +kernel)) ggX12_run_X1_collect
set_option maxRecDepth 20000 in
theorem ggX12_run_X1_layOut : GoodIn wsX12_run wsX1_layOut := goodIn_r _ [340, 341, 342, 38, 343, 344, 345, 67, 346, 209, 215, 64, 65, 66, 68, 69, 70, 71, 347, 348, 349, 29, 350, 351, 31, 352, 353, 354, 37, 355, 356, 357, 358, 359, 210, 360, 61, 62, 63, 361, 161, 162, 211, 212, 213, 214, 362, 363, 142, 143, 131, 144, 133, 134, 135, 364, 146, 147, 148, 136, 365, 206, 207, 208, 366, 138, 139, 140, 141, 145, 450, 451, 452, 453, 454, 455, 433, 434, 435, 436, 437, 438, 439, 440, 441, 442, 443, 444, 445, 446, 447, 448, 449, 488, 489, 490, 491] (by decide +kernel) (by decide +kernel)
set_option maxRecDepth 20000 in
theorem gX12_run_X1_layOut : GoodIn wsX12_run (wsV RX12 198 RX1 yX1_layOut wsX1_layOut) := goodIn_app (goodIn_of _ (by decide +kernel)) ggX12_run_X1_layOut
set_option maxRecDepth 20000 in
theorem ggX12_run_X12_tellFlat : GoodIn wsX12_run wsX12_tellFlat := goodIn_r _ [370, 371, 9, 372, 373, 374, 375, 376, 377, 378, 379, 380, 381, 382, 383, 384, 385, 386, 387, 388, 389, 344, 345, 67, 346, 209, 215, 390, 391, 392, 393, 394, 395, 396, 397, 398, 70, 360, 61, 62, 63, 399, 400, 401, 402, 403, 404, 405, 406, 407, 362, 408, 409, 410, 411, 420, 421, 422, 423, 424, 425, 426, 427, 428, 429, 430, 431, 432, 433, 434, 435, 436, 437, 438, 439, 492, 493, 494] (by decide +kernel) (by decide +kernel)
set_option maxRecDepth 20000 in
theorem gX12_run_X12_tellFlat : GoodIn wsX12_run (wsV RX12 207 RX12 yX12_tellFlat wsX12_tellFlat) := goodIn_app (goodIn_of _ (by decide +kernel)) ggX12_run_X12_tellFlat
set_option maxRecDepth 20000 in
theorem ggX12_run_X12_tellByCells : GoodIn wsX12_run wsX12_tellByCells := goodIn_r _ [415, 371, 8, 372, 373, 374, 375, 376, 377, 378, 379, 380, 381, 382, 383, 384, 385, 386, 387, 388, 389, 344, 345, 67, 346, 209, 215, 390, 391, 392, 393, 394, 395, 396, 397, 398, 70, 360, 61, 62, 63, 399, 400, 401, 402, 403, 404, 405, 406, 407, 362, 408, 409, 410, 411, 416, 417, 418, 419, 420, 421, 422, 423, 424, 425, 426, 427, 428, 429, 430, 431, 432, 433, 434, 435, 436, 437, 438, 439, 492, 493, 494] (by decide +kernel) (by decide +kernel)
set_option maxRecDepth 20000 in
theorem gX12_run_X12_tellByCells : GoodIn wsX12_run (wsV RX12 210 RX12 yX12_tellByCells wsX12_tellByCells) := goodIn_app (goodIn_of _ (by decide +kernel)) ggX12_run_X12_tellByCells

theorem mvs_k {G : sv_G} {h h1 : sv_h} {A n q : Nat} (H : ab_mvs G h A n q) (e1 : h1 A = h A) (e2 : ∀ j, j < n → h1 (q + j) = h (q + j)) : ab_mvs G h1 A n q := by
  obtain ⟨f, p1, p2⟩ := H
  exact ⟨f, e1.trans p1, fun j hj => by
    obtain ⟨q1, x0, x1, x2, x3, q3⟩ := p2 j hj
    exact ⟨q1, x0, x1, x2, x3, (e2 j hj).trans q3⟩⟩
/-- the checker at rest, in pieces -/
theorem ab_Chk.opn {G : sv_G} {h : sv_h} {b : Nat} (C : ab_Chk G h b) : (∃ c4 c5 : Value, h (b + 32) = some (.inr (0, [.ref (b + 1), .ref (b + 35), .ref (b + 33), .ref (b + 34), c4, c5]))) ∧ (∃ f, ab_I G h (b + 34) 17 f) ∧ sn_ G b h ∧ ab_mvs G h (b + 33) 16 (b + 164) ∧ ab_mv0 G h (b + 164) := by
  obtain ⟨⟨x4, x5, _, _, p3⟩, p4, p5, t0, t1, t2, t3, t4, t5, t6, t7, t8, t9, m1, m2, m3, p6, p7⟩ := C
  exact ⟨⟨x4, x5, p3⟩, p4, ⟨p5, t0, t1, t2, t3, t4, t5, t6, t7, t8, t9, m1, m2, p6⟩, m3, p7⟩
theorem ab_Chk.mk9 {G : sv_G} {h : sv_h} {b : Nat} {c4 c5 : Value} (k4 : c4 = .null ∨ ∃ a, c4 = .ref a) (k5 : c5 = .null ∨ ∃ a, c5 = .ref a) (p3 : h (b + 32) = some (.inr (0, [.ref (b + 1), .ref (b + 35), .ref (b + 33), .ref (b + 34), c4, c5]))) (p4 : ∃ f, ab_I G h (b + 34) 17 f) (N : sn_ G b h) (m3 : ab_mvs G h (b + 33) 16 (b + 164)) (p7 : ab_mv0 G h (b + 164)) : ab_Chk G h b := by
  obtain ⟨p5, t0, t1, t2, t3, t4, t5, t6, t7, t8, t9, m1, m2, p6⟩ := N
  exact ⟨⟨c4, c5, k4, k5, p3⟩, p4, p5, t0, t1, t2, t3, t4, t5, t6, t7, t8, t9, m1, m2, m3, p6, p7⟩
theorem tO.any {G : sv_G} {h : sv_h} {t : Nat} {L : List (List Int64)} (H : tO G h t L) : ab_any G h t := by
  obtain ⟨x, ro, od, st, us, ov, hm, w, d1, T, d2⟩ := H
  exact ⟨x, ro, od, st, us, _, ov, hm, T⟩
theorem tE.any {G : sv_G} {h : sv_h} {t : Nat} {hm : Int32} {E : List (List Int64)} (H : tE G h t hm E) : ab_any G h t := by
  obtain ⟨x, ro, od, st, us, sz, ov, T, _⟩ := H
  exact ⟨x, ro, od, st, us, sz, ov, hm, T⟩
set_option maxHeartbeats 4000000 in
set_option maxRecDepth 100000 in
theorem c_runA (G : sv_G) (hl0 : G.1.stackTraces = false) (hki : sv_ki G) (h : sv_h) (z b : Nat) (k : Int32) (nc np pl : Nat) (R : Nat → Bool) (hm p3 p4 pa ma sz : Nat → Nat) (ly vo ar : Nat → Int32) (mp : Nat → mvT) (Z9 : sy_ G h b k nc np pl R hm p3 p4 pa ma sz ly vo ar mp) (X Y : Nat → Nat → Int) (fc : Nat → Nat → Nat) (oc : Nat → Nat → Option Nat) (PX : px_ G h np R pa sz X Y fc oc) (CK : ab_Chk G h b) (ru nr : Nat) (frl : Nat → Option Nat) (hrow : ab_Q G h ru 5 20 frl) (hfrl : ∀ j, j < 20 → frl j = some (ru + 1 + j)) (hruv : ru = b + 183 ∨ ru = b + 11) (ri : Nat) (hri : ri < nr) (hnr : nr ≤ 20) (n0 : Int64) (kd : Nat) (hkd : kd < 11) (l1 l2 x3 x4 x5 x6 : Int32) (hrl : h (ru + 1 + ri) = some (.inr (5, [.long n0, .ref (G.2.2.2.2.1 kd), .int l1, .int l2, .int x3, .int x4, .int x5, .int x6]))) (la fo fl : Nat) (hla : b + 204 ≤ la ∧ la + 4 ≤ b + 216) (hfo : b + 204 ≤ fo ∧ fo + 4 ≤ b + 216) (hfl : b + 204 ≤ fl ∧ fl + 4 ≤ b + 216) (hd1 : la + 4 ≤ fo ∨ fo + 4 ≤ la) (hd2 : la + 4 ≤ fl ∨ fl + 4 ≤ la) (hd3 : fo + 4 ≤ fl ∨ fl + 4 ≤ fo) (lX lf : Int32) (hD : h b = some (.inr (10, [.ref (b + 1), .ref (b + 8), .ref (b + 10), .ref (b + 32), .ref (b + 180), .ref ru, .int (nI nr), .int lX, .int lf, .ref la, .ref fo, .ref fl, .ref (b + 216)]))) (Afo : ab_any G h fo) (Afl : ab_any G h fl) (nw : Nat) (wr : Nat → Int64) (WV : ab_wv G h b nw wr) (hC : coB np R sz X Y) (hM : ∀ i, i < pl → mvB mp i) (har : ∀ p, p < np → R p = true → bd (ar p).toInt) (rk : Nat → Nat) (hr : ∀ i, i < pl → rk (p4 i) < rk (p3 i)) (hrk : ∀ c, c < nc → rk c < nc) (cl : Nat) (hcl : cl < nc) (g : Nat → Bool) (hg : ∀ d, d < 16 → (g d = true ↔ gr_R pl p3 p4 cl d)) (Lc : Nat → List (List Int64)) (hLc : (jCol kd l1 l2 x3 x4 x5 x6 np pl R hm p3 p4 ly vo ar mp sz X Y fc oc nc g cl) = ((List.range 16).flatMap Lc)) (hok : ∀ c, c < 16 → ∀ x, x < (Lc c).length → rok ((Lc c).getD x [])) (hcell : ∀ c, c < 16 → ∀ x, x < (Lc c).length → ((Lc c).getD x []).getD 7 0 = (nI c).toInt64) (hL0 : ∀ i, i < pl → gr_R pl p3 p4 cl (p3 i) → oc_n np pl R hm p3 p4 nc (p4 i) = 0 → ∀ f w, lS pl p3 p4 mp Lc f (p4 i) w = []) (fv : Int32) (hbig : 100 < (oc_n np pl R hm p3 p4 nc cl)) : CX G mX12_run [.ref b, .int (nI ri), .int (nI cl), .int fv] h z (fun _ _ _ => False) (fun E h3 z3 => E = "java/lang/UnsupportedOperationException" ∧ h3 b = h b ∧ ab_any G h3 fo ∧ ab_any G h3 fl ∧ (∃ f, ab_I G h3 (b + 6) 16 f) ∧ (∃ f, ab_I G h3 (b + 7) 16 f) ∧ ab_Chk G h3 b ∧ (∃ f, ab_J G h3 (b + 182) 8 f) ∧ (∀ a, a ≠ b → a ≠ b + 6 → a ≠ b + 7 → ¬ (b + 32 ≤ a ∧ a < b + 180) → a ≠ b + 182 → ¬ (fo ≤ a ∧ a < fo + 4) → ¬ (fl ≤ a ∧ a < fl + 4) → h3 a = h a)) := by
  refine CX.of (by decide +kernel) rfl rfl (Nat.le_of_ble_eq_true rfl) ?_
  obtain ⟨⟨c4, c5, ck1⟩, ⟨f34, ck2⟩, ck3, ck4, ck5⟩ := CK.opn
  obtain ⟨y1, _⟩ := id Z9
  obtain ⟨wn, w1, ⟨wf, w2, w3⟩, ⟨w8, w4⟩⟩ := id WV
  have hr0 : 0 ≤ nI ri ∧ nI ri < nI nr := ⟨Int32.not_lt.mp (nI_pos (by omega)), nI_lt hri (by omega)⟩
  have hc0 : 0 ≤ nI cl ∧ nI cl < nI nc := ⟨Int32.not_lt.mp (nI_pos (by have := Z9.2.2.2.2.2.2.2.2.2.1; omega)), nI_lt hcl (by have := Z9.2.2.2.2.2.2.2.2.2.1; omega)⟩
  refine v_aload_n dX12_run_0 rfl 0 rfl ?_
  refine v_iload_n dX12_run_1 rfl 1 rfl ?_
  refine v_callVq (M' := mX12_hasRule) (n := 1) (As := [_]) (ci := 10) (r := (RX12, TX12, 13)) gX12_run_X12_hasRule rfl (by decide +kernel) ⟨(Nat.le_of_ble_eq_true rfl), (Nat.le_of_ble_eq_true rfl)⟩ rfl rfl dX12_run_2 rfl ⟨(Nat.le_of_ble_eq_true rfl), (Nat.le_of_ble_eq_true rfl)⟩ (Nat.le_of_ble_eq_true rfl) (by first | with_reducible assumption) rfl (c_hasRule G h _ b (nI ri) _ _ _ _ _ _ _ _ _ _ _ _ _ hD) (fun v9 h9 y9 hq => v_pq hq ?_)
  refine v_if_eq (tgt := 19) dX12_run_5 (by decide) (fun c_5 => ?_) (fun c_5 => ?_)
  · exact absurd c_5 (by rw [if_pos hr0]; decide)
  · refine v_aload_n dX12_run_8 rfl 0 rfl ?_
    refine v_getf 0 (ci := 10) (C := RX12) (T := TX12) (N := 13) rfl iwX12_run_X12 (Nat.le_of_ble_eq_true rfl) (by decide +kernel) dX12_run_9 (by first | with_reducible assumption) rfl ?_
    refine v_iload_n dX12_run_12 rfl 2 rfl ?_
    refine v_callVq (M' := mX3_hasCell) (n := 1) (As := [_]) (ci := 1) (r := (RX3, TX3, 10)) gX12_run_X3_hasCell rfl (by decide +kernel) ⟨(Nat.le_of_ble_eq_true rfl), (Nat.le_of_ble_eq_true rfl)⟩ rfl rfl dX12_run_13 rfl ⟨(Nat.le_of_ble_eq_true rfl), (Nat.le_of_ble_eq_true rfl)⟩ (Nat.le_of_ble_eq_true rfl) (by first | with_reducible assumption) rfl (c_hasCell G h _ (b + 1) (nI cl) _ _ _ _ _ _ _ _ _ _ y1) (fun v9 h9 y9 hq => v_pq hq ?_)
    refine v_if_ne (tgt := 29) dX12_run_16 (by decide) (fun c_16 => ?_) (fun c_16 => ?_)
    · refine v_aload_n dX12_run_29 rfl 0 rfl ?_
      refine v_getf 3 (ci := 10) (C := RX12) (T := TX12) (N := 13) rfl iwX12_run_X12 (Nat.le_of_ble_eq_true rfl) (by decide +kernel) dX12_run_30 (by first | with_reducible assumption) rfl ?_
      refine v_aload_n dX12_run_33 rfl 0 rfl ?_
      refine v_getf 5 (ci := 10) (C := RX12) (T := TX12) (N := 13) rfl iwX12_run_X12 (Nat.le_of_ble_eq_true rfl) (by decide +kernel) dX12_run_34 (by first | with_reducible assumption) rfl ?_
      refine v_iload_n dX12_run_37 rfl 1 rfl ?_
      refine v_aaldS (t := 5) (q := ru + 1 + ri) dX12_run_38 (fun _ => rfl) (by first | with_reducible assumption) (vp_in_nI (by omega) (by omega)) (by rw [nI_clamp (by omega)]; exact hfrl ri (by omega)) ?_
      refine v_iload_n dX12_run_39 rfl 2 rfl ?_
      refine v_aload_n dX12_run_40 rfl 0 rfl ?_
      refine v_getf 10 (ci := 10) (C := RX12) (T := TX12) (N := 13) rfl iwX12_run_X12 (Nat.le_of_ble_eq_true rfl) (by decide +kernel) dX12_run_41 (by first | with_reducible assumption) rfl ?_
      refine v_callVq (M' := mX1_collect) (n := 3) (As := [_, _, _]) (ci := 0) (r := (RX1, TX1, 6)) gX12_run_X1_collect rfl (by decide +kernel) ⟨(Nat.le_of_ble_eq_true rfl), (Nat.le_of_ble_eq_true rfl)⟩ rfl rfl dX12_run_44 rfl ⟨(Nat.le_of_ble_eq_true rfl), (Nat.le_of_ble_eq_true rfl)⟩ (Nat.le_of_ble_eq_true rfl) (by first | with_reducible assumption) rfl (c_collect G hki h _ b k nc np pl R hm p3 p4 pa ma sz ly vo ar mp Z9 X Y fc oc PX ck3 (ru + 1 + ri) (by omega) n0 kd hkd l1 l2 x3 x4 x5 x6 hrl (by omega) fo (by omega) (by omega) c4 c5 ck1 Afo hC hM har rk hr hrk cl hcl g hg) (fun v h1 z1 hq9 => ?_)
      obtain ⟨rfl, hq9⟩ := hq9
      rcases hq9 with ⟨q1, rfl, Y1, F1⟩ | ⟨q1, _⟩
      rotate_left
      · exact absurd q1 (by omega)
      obtain ⟨_, _, _, _, _, ⟨f6, A6⟩, ⟨f7, A7⟩, _⟩ := id Y1
      refine v_istore (L' := [(4, _), (0, _), (1, _), (2, _), (3, _)]) dX12_run_47 (Nat.le_of_ble_eq_true rfl) rfl ?_
      refine v_iload dX12_run_49 0 rfl ?_
      refine v_if_eq (tgt := 77) dX12_run_51 (by decide) (fun c_51 => ?_) (fun c_51 => ?_)
      · exact v_throw (ik := 202) (is := 204) (ic := 206) (cls := "java/lang/UnsupportedOperationException") (text := "too many occurrences or violations") (names := ["java/lang/RuntimeException", "java/lang/Exception"]) hl0 rfl (by decide +kernel) (by decide +kernel) (by decide +kernel) (by decide +kernel) (by decide +kernel) (by decide +kernel) (by decide +kernel) sv_bwU (by decide +kernel) dX12_run_77 dX12_run_80 dX12_run_81 dX12_run_83 dX12_run_86 rfl (Nat.le_of_ble_eq_true rfl) (Nat.le_of_ble_eq_true rfl) (Nat.le_of_ble_eq_true rfl) (Nat.le_of_ble_eq_true rfl) (fun z9 hz9 => ⟨rfl, F1 b (by omega) (by omega), Afo.kept (fun a p1 p2 => F1 a (by omega) (by omega)), Afl.kept (fun a p1 p2 => F1 a (by omega) (by omega)), ⟨f6, A6⟩, ⟨f7, A7⟩, CK.kept (fun a p1 p2 => F1 a (by omega) (by omega)), ⟨w8, (F1 _ (by omega) (by omega)).trans w4⟩, fun a p1 p2 p3_ p4_ p5 p6 p7 => F1 a p2 p3_⟩)
      · exact absurd rfl c_51
    · exact absurd c_16 (by rw [if_pos hc0]; decide)

set_option maxHeartbeats 4000000 in
set_option maxRecDepth 100000 in
theorem c_runB (G : sv_G) (hl0 : G.1.stackTraces = false) (hki : sv_ki G) (h : sv_h) (z b : Nat) (k : Int32) (nc np pl : Nat) (R : Nat → Bool) (hm p3 p4 pa ma sz : Nat → Nat) (ly vo ar : Nat → Int32) (mp : Nat → mvT) (Z9 : sy_ G h b k nc np pl R hm p3 p4 pa ma sz ly vo ar mp) (X Y : Nat → Nat → Int) (fc : Nat → Nat → Nat) (oc : Nat → Nat → Option Nat) (PX : px_ G h np R pa sz X Y fc oc) (CK : ab_Chk G h b) (ru nr : Nat) (frl : Nat → Option Nat) (hrow : ab_Q G h ru 5 20 frl) (hfrl : ∀ j, j < 20 → frl j = some (ru + 1 + j)) (hruv : ru = b + 183 ∨ ru = b + 11) (ri : Nat) (hri : ri < nr) (hnr : nr ≤ 20) (n0 : Int64) (kd : Nat) (hkd : kd < 11) (l1 l2 x3 x4 x5 x6 : Int32) (hrl : h (ru + 1 + ri) = some (.inr (5, [.long n0, .ref (G.2.2.2.2.1 kd), .int l1, .int l2, .int x3, .int x4, .int x5, .int x6]))) (la fo fl : Nat) (hla : b + 204 ≤ la ∧ la + 4 ≤ b + 216) (hfo : b + 204 ≤ fo ∧ fo + 4 ≤ b + 216) (hfl : b + 204 ≤ fl ∧ fl + 4 ≤ b + 216) (hd1 : la + 4 ≤ fo ∨ fo + 4 ≤ la) (hd2 : la + 4 ≤ fl ∨ fl + 4 ≤ la) (hd3 : fo + 4 ≤ fl ∨ fl + 4 ≤ fo) (lX lf : Int32) (hD : h b = some (.inr (10, [.ref (b + 1), .ref (b + 8), .ref (b + 10), .ref (b + 32), .ref (b + 180), .ref ru, .int (nI nr), .int lX, .int lf, .ref la, .ref fo, .ref fl, .ref (b + 216)]))) (Afo : ab_any G h fo) (Afl : ab_any G h fl) (nw : Nat) (wr : Nat → Int64) (WV : ab_wv G h b nw wr) (hC : coB np R sz X Y) (hM : ∀ i, i < pl → mvB mp i) (har : ∀ p, p < np → R p = true → bd (ar p).toInt) (rk : Nat → Nat) (hr : ∀ i, i < pl → rk (p4 i) < rk (p3 i)) (hrk : ∀ c, c < nc → rk c < nc) (cl : Nat) (hcl : cl < nc) (g : Nat → Bool) (hg : ∀ d, d < 16 → (g d = true ↔ gr_R pl p3 p4 cl d)) (Lc : Nat → List (List Int64)) (hLc : (jCol kd l1 l2 x3 x4 x5 x6 np pl R hm p3 p4 ly vo ar mp sz X Y fc oc nc g cl) = ((List.range 16).flatMap Lc)) (hok : ∀ c, c < 16 → ∀ x, x < (Lc c).length → rok ((Lc c).getD x [])) (hcell : ∀ c, c < 16 → ∀ x, x < (Lc c).length → ((Lc c).getD x []).getD 7 0 = (nI c).toInt64) (hL0 : ∀ i, i < pl → gr_R pl p3 p4 cl (p3 i) → oc_n np pl R hm p3 p4 nc (p4 i) = 0 → ∀ f w, lS pl p3 p4 mp Lc f (p4 i) w = []) (fv : Int32) (hN : (oc_n np pl R hm p3 p4 nc cl) ≤ 100) (hbig : 1500 < (jCol kd l1 l2 x3 x4 x5 x6 np pl R hm p3 p4 ly vo ar mp sz X Y fc oc nc g cl).length) : CX G mX12_run [.ref b, .int (nI ri), .int (nI cl), .int fv] h z (fun _ _ _ => False) (fun E h3 z3 => E = "java/lang/UnsupportedOperationException" ∧ h3 b = h b ∧ ab_any G h3 fo ∧ ab_any G h3 fl ∧ (∃ f, ab_I G h3 (b + 6) 16 f) ∧ (∃ f, ab_I G h3 (b + 7) 16 f) ∧ ab_Chk G h3 b ∧ (∃ f, ab_J G h3 (b + 182) 8 f) ∧ (∀ a, a ≠ b → a ≠ b + 6 → a ≠ b + 7 → ¬ (b + 32 ≤ a ∧ a < b + 180) → a ≠ b + 182 → ¬ (fo ≤ a ∧ a < fo + 4) → ¬ (fl ≤ a ∧ a < fl + 4) → h3 a = h a)) := by
  refine CX.of (by decide +kernel) rfl rfl (Nat.le_of_ble_eq_true rfl) ?_
  obtain ⟨⟨c4, c5, ck1⟩, ⟨f34, ck2⟩, ck3, ck4, ck5⟩ := CK.opn
  obtain ⟨y1, _⟩ := id Z9
  obtain ⟨wn, w1, ⟨wf, w2, w3⟩, ⟨w8, w4⟩⟩ := id WV
  have hr0 : 0 ≤ nI ri ∧ nI ri < nI nr := ⟨Int32.not_lt.mp (nI_pos (by omega)), nI_lt hri (by omega)⟩
  have hc0 : 0 ≤ nI cl ∧ nI cl < nI nc := ⟨Int32.not_lt.mp (nI_pos (by have := Z9.2.2.2.2.2.2.2.2.2.1; omega)), nI_lt hcl (by have := Z9.2.2.2.2.2.2.2.2.2.1; omega)⟩
  refine v_aload_n dX12_run_0 rfl 0 rfl ?_
  refine v_iload_n dX12_run_1 rfl 1 rfl ?_
  refine v_callVq (M' := mX12_hasRule) (n := 1) (As := [_]) (ci := 10) (r := (RX12, TX12, 13)) gX12_run_X12_hasRule rfl (by decide +kernel) ⟨(Nat.le_of_ble_eq_true rfl), (Nat.le_of_ble_eq_true rfl)⟩ rfl rfl dX12_run_2 rfl ⟨(Nat.le_of_ble_eq_true rfl), (Nat.le_of_ble_eq_true rfl)⟩ (Nat.le_of_ble_eq_true rfl) (by first | with_reducible assumption) rfl (c_hasRule G h _ b (nI ri) _ _ _ _ _ _ _ _ _ _ _ _ _ hD) (fun v9 h9 y9 hq => v_pq hq ?_)
  refine v_if_eq (tgt := 19) dX12_run_5 (by decide) (fun c_5 => ?_) (fun c_5 => ?_)
  · exact absurd c_5 (by rw [if_pos hr0]; decide)
  · refine v_aload_n dX12_run_8 rfl 0 rfl ?_
    refine v_getf 0 (ci := 10) (C := RX12) (T := TX12) (N := 13) rfl iwX12_run_X12 (Nat.le_of_ble_eq_true rfl) (by decide +kernel) dX12_run_9 (by first | with_reducible assumption) rfl ?_
    refine v_iload_n dX12_run_12 rfl 2 rfl ?_
    refine v_callVq (M' := mX3_hasCell) (n := 1) (As := [_]) (ci := 1) (r := (RX3, TX3, 10)) gX12_run_X3_hasCell rfl (by decide +kernel) ⟨(Nat.le_of_ble_eq_true rfl), (Nat.le_of_ble_eq_true rfl)⟩ rfl rfl dX12_run_13 rfl ⟨(Nat.le_of_ble_eq_true rfl), (Nat.le_of_ble_eq_true rfl)⟩ (Nat.le_of_ble_eq_true rfl) (by first | with_reducible assumption) rfl (c_hasCell G h _ (b + 1) (nI cl) _ _ _ _ _ _ _ _ _ _ y1) (fun v9 h9 y9 hq => v_pq hq ?_)
    refine v_if_ne (tgt := 29) dX12_run_16 (by decide) (fun c_16 => ?_) (fun c_16 => ?_)
    · refine v_aload_n dX12_run_29 rfl 0 rfl ?_
      refine v_getf 3 (ci := 10) (C := RX12) (T := TX12) (N := 13) rfl iwX12_run_X12 (Nat.le_of_ble_eq_true rfl) (by decide +kernel) dX12_run_30 (by first | with_reducible assumption) rfl ?_
      refine v_aload_n dX12_run_33 rfl 0 rfl ?_
      refine v_getf 5 (ci := 10) (C := RX12) (T := TX12) (N := 13) rfl iwX12_run_X12 (Nat.le_of_ble_eq_true rfl) (by decide +kernel) dX12_run_34 (by first | with_reducible assumption) rfl ?_
      refine v_iload_n dX12_run_37 rfl 1 rfl ?_
      refine v_aaldS (t := 5) (q := ru + 1 + ri) dX12_run_38 (fun _ => rfl) (by first | with_reducible assumption) (vp_in_nI (by omega) (by omega)) (by rw [nI_clamp (by omega)]; exact hfrl ri (by omega)) ?_
      refine v_iload_n dX12_run_39 rfl 2 rfl ?_
      refine v_aload_n dX12_run_40 rfl 0 rfl ?_
      refine v_getf 10 (ci := 10) (C := RX12) (T := TX12) (N := 13) rfl iwX12_run_X12 (Nat.le_of_ble_eq_true rfl) (by decide +kernel) dX12_run_41 (by first | with_reducible assumption) rfl ?_
      refine v_callVq (M' := mX1_collect) (n := 3) (As := [_, _, _]) (ci := 0) (r := (RX1, TX1, 6)) gX12_run_X1_collect rfl (by decide +kernel) ⟨(Nat.le_of_ble_eq_true rfl), (Nat.le_of_ble_eq_true rfl)⟩ rfl rfl dX12_run_44 rfl ⟨(Nat.le_of_ble_eq_true rfl), (Nat.le_of_ble_eq_true rfl)⟩ (Nat.le_of_ble_eq_true rfl) (by first | with_reducible assumption) rfl (c_collect G hki h _ b k nc np pl R hm p3 p4 pa ma sz ly vo ar mp Z9 X Y fc oc PX ck3 (ru + 1 + ri) (by omega) n0 kd hkd l1 l2 x3 x4 x5 x6 hrl (by omega) fo (by omega) (by omega) c4 c5 ck1 Afo hC hM har rk hr hrk cl hcl g hg) (fun v h1 z1 hq9 => ?_)
      obtain ⟨rfl, hq9⟩ := hq9
      rcases hq9 with ⟨q1, _⟩ | ⟨q1, hv, ⟨hm1, E1⟩, Z1, ⟨f7, A7⟩, P1, N1, C1, F1⟩
      · exact absurd q1 (by omega)
      rw [if_neg (Nat.not_le.mpr hbig)] at hv
      subst hv
      obtain ⟨_, _, _, _, _, ⟨f6, A6, _⟩, _⟩ := id Z1
      have D1 := (F1 b (by omega) (by omega) (by omega) (by omega) (by omega)).trans hD
      have M1 : ab_mvs G h1 (b + 33) 16 (b + 164) := mvs_k ck4 (F1 _ (by omega) (by omega) (by omega) (by omega) (by omega)) (fun j hj => F1 _ (by omega) (by omega) (by omega) (by omega) (by omega))
      have V1 : ab_mv0 G h1 (b + 164) := (F1 _ (by omega) (by omega) (by omega) (by omega) (by omega)).trans ck5
      have B1 : ab_I G h1 (b + 34) 17 f34 := (F1 _ (by omega) (by omega) (by omega) (by omega) (by omega)).trans ck2
      have L1_ : ab_any G h1 fl := Afl.kept (fun a p1 p2 => F1 a (by omega) (by omega) (by omega) (by omega) (by omega))
      have W18 : ab_J G h1 (b + 182) 8 w8 := (F1 _ (by omega) (by omega) (by omega) (by omega) (by omega)).trans w4
      have W11 := (F1 (b + 180) (by omega) (by omega) (by omega) (by omega) (by omega)).trans w1
      have W12 : ab_J G h1 (b + 181) 320 wf := (F1 (b + 181) (by omega) (by omega) (by omega) (by omega) (by omega)).trans w2
      obtain ⟨fso, hso⟩ := E1.obj
      refine v_istore (L' := [(4, _), (0, _), (1, _), (2, _), (3, _)]) dX12_run_47 (Nat.le_of_ble_eq_true rfl) rfl ?_
      refine v_iload dX12_run_49 0 rfl ?_
      refine v_if_eq (tgt := 77) dX12_run_51 (by decide) (fun c_51 => ?_) (fun c_51 => ?_)
      · exact v_throw (ik := 202) (is := 204) (ic := 206) (cls := "java/lang/UnsupportedOperationException") (text := "too many occurrences or violations") (names := ["java/lang/RuntimeException", "java/lang/Exception"]) hl0 rfl (by decide +kernel) (by decide +kernel) (by decide +kernel) (by decide +kernel) (by decide +kernel) (by decide +kernel) (by decide +kernel) sv_bwU (by decide +kernel) dX12_run_77 dX12_run_80 dX12_run_81 dX12_run_83 dX12_run_86 rfl (Nat.le_of_ble_eq_true rfl) (Nat.le_of_ble_eq_true rfl) (Nat.le_of_ble_eq_true rfl) (Nat.le_of_ble_eq_true rfl) (fun z9 hz9 => ⟨rfl, D1.trans hD.symm, E1.any, L1_, ⟨f6, A6⟩, ⟨f7, A7⟩, (ab_Chk.mk9 (Or.inr ⟨_, rfl⟩) (Or.inr ⟨_, rfl⟩) C1 ⟨f34, B1⟩ N1 M1 V1), ⟨w8, W18⟩, fun a p1 p2 p3_ p4_ p5 p6 p7 => F1 a p2 p3_ (by omega) (by omega) p6⟩)
      · exact absurd rfl c_51
    · exact absurd c_16 (by rw [if_pos hc0]; decide)

set_option maxHeartbeats 4000000 in
set_option maxRecDepth 100000 in
theorem c_runC (G : sv_G) (hl0 : G.1.stackTraces = false) (hki : sv_ki G) (h : sv_h) (z b : Nat) (k : Int32) (nc np pl : Nat) (R : Nat → Bool) (hm p3 p4 pa ma sz : Nat → Nat) (ly vo ar : Nat → Int32) (mp : Nat → mvT) (Z9 : sy_ G h b k nc np pl R hm p3 p4 pa ma sz ly vo ar mp) (X Y : Nat → Nat → Int) (fc : Nat → Nat → Nat) (oc : Nat → Nat → Option Nat) (PX : px_ G h np R pa sz X Y fc oc) (CK : ab_Chk G h b) (ru nr : Nat) (frl : Nat → Option Nat) (hrow : ab_Q G h ru 5 20 frl) (hfrl : ∀ j, j < 20 → frl j = some (ru + 1 + j)) (hruv : ru = b + 183 ∨ ru = b + 11) (ri : Nat) (hri : ri < nr) (hnr : nr ≤ 20) (n0 : Int64) (kd : Nat) (hkd : kd < 11) (l1 l2 x3 x4 x5 x6 : Int32) (hrl : h (ru + 1 + ri) = some (.inr (5, [.long n0, .ref (G.2.2.2.2.1 kd), .int l1, .int l2, .int x3, .int x4, .int x5, .int x6]))) (la fo fl : Nat) (hla : b + 204 ≤ la ∧ la + 4 ≤ b + 216) (hfo : b + 204 ≤ fo ∧ fo + 4 ≤ b + 216) (hfl : b + 204 ≤ fl ∧ fl + 4 ≤ b + 216) (hd1 : la + 4 ≤ fo ∨ fo + 4 ≤ la) (hd2 : la + 4 ≤ fl ∨ fl + 4 ≤ la) (hd3 : fo + 4 ≤ fl ∨ fl + 4 ≤ fo) (lX lf : Int32) (hD : h b = some (.inr (10, [.ref (b + 1), .ref (b + 8), .ref (b + 10), .ref (b + 32), .ref (b + 180), .ref ru, .int (nI nr), .int lX, .int lf, .ref la, .ref fo, .ref fl, .ref (b + 216)]))) (Afo : ab_any G h fo) (Afl : ab_any G h fl) (nw : Nat) (wr : Nat → Int64) (WV : ab_wv G h b nw wr) (hC : coB np R sz X Y) (hM : ∀ i, i < pl → mvB mp i) (har : ∀ p, p < np → R p = true → bd (ar p).toInt) (rk : Nat → Nat) (hr : ∀ i, i < pl → rk (p4 i) < rk (p3 i)) (hrk : ∀ c, c < nc → rk c < nc) (cl : Nat) (hcl : cl < nc) (g : Nat → Bool) (hg : ∀ d, d < 16 → (g d = true ↔ gr_R pl p3 p4 cl d)) (Lc : Nat → List (List Int64)) (hLc : (jCol kd l1 l2 x3 x4 x5 x6 np pl R hm p3 p4 ly vo ar mp sz X Y fc oc nc g cl) = ((List.range 16).flatMap Lc)) (hok : ∀ c, c < 16 → ∀ x, x < (Lc c).length → rok ((Lc c).getD x [])) (hcell : ∀ c, c < 16 → ∀ x, x < (Lc c).length → ((Lc c).getD x []).getD 7 0 = (nI c).toInt64) (hL0 : ∀ i, i < pl → gr_R pl p3 p4 cl (p3 i) → oc_n np pl R hm p3 p4 nc (p4 i) = 0 → ∀ f w, lS pl p3 p4 mp Lc f (p4 i) w = []) (hN : (oc_n np pl R hm p3 p4 nc cl) ≤ 100) (hEB : (jCol kd l1 l2 x3 x4 x5 x6 np pl R hm p3 p4 ly vo ar mp sz X Y fc oc nc g cl).length ≤ 1500) (hbig : 1500 < (lS pl p3 p4 mp Lc 16 cl []).length) : CX G mX12_run [.ref b, .int (nI ri), .int (nI cl), .int 1] h z (fun _ _ _ => False) (fun E h3 z3 => E = "java/lang/UnsupportedOperationException" ∧ h3 b = h b ∧ ab_any G h3 fo ∧ ab_any G h3 fl ∧ (∃ f, ab_I G h3 (b + 6) 16 f) ∧ (∃ f, ab_I G h3 (b + 7) 16 f) ∧ ab_Chk G h3 b ∧ (∃ f, ab_J G h3 (b + 182) 8 f) ∧ (∀ a, a ≠ b → a ≠ b + 6 → a ≠ b + 7 → ¬ (b + 32 ≤ a ∧ a < b + 180) → a ≠ b + 182 → ¬ (fo ≤ a ∧ a < fo + 4) → ¬ (fl ≤ a ∧ a < fl + 4) → h3 a = h a)) := by
  refine CX.of (by decide +kernel) rfl rfl (Nat.le_of_ble_eq_true rfl) ?_
  obtain ⟨⟨c4, c5, ck1⟩, ⟨f34, ck2⟩, ck3, ck4, ck5⟩ := CK.opn
  obtain ⟨y1, _⟩ := id Z9
  obtain ⟨wn, w1, ⟨wf, w2, w3⟩, ⟨w8, w4⟩⟩ := id WV
  have hr0 : 0 ≤ nI ri ∧ nI ri < nI nr := ⟨Int32.not_lt.mp (nI_pos (by omega)), nI_lt hri (by omega)⟩
  have hc0 : 0 ≤ nI cl ∧ nI cl < nI nc := ⟨Int32.not_lt.mp (nI_pos (by have := Z9.2.2.2.2.2.2.2.2.2.1; omega)), nI_lt hcl (by have := Z9.2.2.2.2.2.2.2.2.2.1; omega)⟩
  refine v_aload_n dX12_run_0 rfl 0 rfl ?_
  refine v_iload_n dX12_run_1 rfl 1 rfl ?_
  refine v_callVq (M' := mX12_hasRule) (n := 1) (As := [_]) (ci := 10) (r := (RX12, TX12, 13)) gX12_run_X12_hasRule rfl (by decide +kernel) ⟨(Nat.le_of_ble_eq_true rfl), (Nat.le_of_ble_eq_true rfl)⟩ rfl rfl dX12_run_2 rfl ⟨(Nat.le_of_ble_eq_true rfl), (Nat.le_of_ble_eq_true rfl)⟩ (Nat.le_of_ble_eq_true rfl) (by first | with_reducible assumption) rfl (c_hasRule G h _ b (nI ri) _ _ _ _ _ _ _ _ _ _ _ _ _ hD) (fun v9 h9 y9 hq => v_pq hq ?_)
  refine v_if_eq (tgt := 19) dX12_run_5 (by decide) (fun c_5 => ?_) (fun c_5 => ?_)
  · exact absurd c_5 (by rw [if_pos hr0]; decide)
  · refine v_aload_n dX12_run_8 rfl 0 rfl ?_
    refine v_getf 0 (ci := 10) (C := RX12) (T := TX12) (N := 13) rfl iwX12_run_X12 (Nat.le_of_ble_eq_true rfl) (by decide +kernel) dX12_run_9 (by first | with_reducible assumption) rfl ?_
    refine v_iload_n dX12_run_12 rfl 2 rfl ?_
    refine v_callVq (M' := mX3_hasCell) (n := 1) (As := [_]) (ci := 1) (r := (RX3, TX3, 10)) gX12_run_X3_hasCell rfl (by decide +kernel) ⟨(Nat.le_of_ble_eq_true rfl), (Nat.le_of_ble_eq_true rfl)⟩ rfl rfl dX12_run_13 rfl ⟨(Nat.le_of_ble_eq_true rfl), (Nat.le_of_ble_eq_true rfl)⟩ (Nat.le_of_ble_eq_true rfl) (by first | with_reducible assumption) rfl (c_hasCell G h _ (b + 1) (nI cl) _ _ _ _ _ _ _ _ _ _ y1) (fun v9 h9 y9 hq => v_pq hq ?_)
    refine v_if_ne (tgt := 29) dX12_run_16 (by decide) (fun c_16 => ?_) (fun c_16 => ?_)
    · refine v_aload_n dX12_run_29 rfl 0 rfl ?_
      refine v_getf 3 (ci := 10) (C := RX12) (T := TX12) (N := 13) rfl iwX12_run_X12 (Nat.le_of_ble_eq_true rfl) (by decide +kernel) dX12_run_30 (by first | with_reducible assumption) rfl ?_
      refine v_aload_n dX12_run_33 rfl 0 rfl ?_
      refine v_getf 5 (ci := 10) (C := RX12) (T := TX12) (N := 13) rfl iwX12_run_X12 (Nat.le_of_ble_eq_true rfl) (by decide +kernel) dX12_run_34 (by first | with_reducible assumption) rfl ?_
      refine v_iload_n dX12_run_37 rfl 1 rfl ?_
      refine v_aaldS (t := 5) (q := ru + 1 + ri) dX12_run_38 (fun _ => rfl) (by first | with_reducible assumption) (vp_in_nI (by omega) (by omega)) (by rw [nI_clamp (by omega)]; exact hfrl ri (by omega)) ?_
      refine v_iload_n dX12_run_39 rfl 2 rfl ?_
      refine v_aload_n dX12_run_40 rfl 0 rfl ?_
      refine v_getf 10 (ci := 10) (C := RX12) (T := TX12) (N := 13) rfl iwX12_run_X12 (Nat.le_of_ble_eq_true rfl) (by decide +kernel) dX12_run_41 (by first | with_reducible assumption) rfl ?_
      refine v_callVq (M' := mX1_collect) (n := 3) (As := [_, _, _]) (ci := 0) (r := (RX1, TX1, 6)) gX12_run_X1_collect rfl (by decide +kernel) ⟨(Nat.le_of_ble_eq_true rfl), (Nat.le_of_ble_eq_true rfl)⟩ rfl rfl dX12_run_44 rfl ⟨(Nat.le_of_ble_eq_true rfl), (Nat.le_of_ble_eq_true rfl)⟩ (Nat.le_of_ble_eq_true rfl) (by first | with_reducible assumption) rfl (c_collect G hki h _ b k nc np pl R hm p3 p4 pa ma sz ly vo ar mp Z9 X Y fc oc PX ck3 (ru + 1 + ri) (by omega) n0 kd hkd l1 l2 x3 x4 x5 x6 hrl (by omega) fo (by omega) (by omega) c4 c5 ck1 Afo hC hM har rk hr hrk cl hcl g hg) (fun v h1 z1 hq9 => ?_)
      obtain ⟨rfl, hq9⟩ := hq9
      rcases hq9 with ⟨q1, _⟩ | ⟨q1, hv, ⟨hm1, E1⟩, Z1, ⟨f7, A7⟩, P1, N1, C1, F1⟩
      · exact absurd q1 (by omega)
      rw [if_pos hEB] at hv
      subst hv
      obtain ⟨_, _, _, _, _, ⟨f6, A6, _⟩, _⟩ := id Z1
      have D1 := (F1 b (by omega) (by omega) (by omega) (by omega) (by omega)).trans hD
      have M1 : ab_mvs G h1 (b + 33) 16 (b + 164) := mvs_k ck4 (F1 _ (by omega) (by omega) (by omega) (by omega) (by omega)) (fun j hj => F1 _ (by omega) (by omega) (by omega) (by omega) (by omega))
      have V1 : ab_mv0 G h1 (b + 164) := (F1 _ (by omega) (by omega) (by omega) (by omega) (by omega)).trans ck5
      have B1 : ab_I G h1 (b + 34) 17 f34 := (F1 _ (by omega) (by omega) (by omega) (by omega) (by omega)).trans ck2
      have L1_ : ab_any G h1 fl := Afl.kept (fun a p1 p2 => F1 a (by omega) (by omega) (by omega) (by omega) (by omega))
      have W18 : ab_J G h1 (b + 182) 8 w8 := (F1 _ (by omega) (by omega) (by omega) (by omega) (by omega)).trans w4
      have W11 := (F1 (b + 180) (by omega) (by omega) (by omega) (by omega) (by omega)).trans w1
      have W12 : ab_J G h1 (b + 181) 320 wf := (F1 (b + 181) (by omega) (by omega) (by omega) (by omega) (by omega)).trans w2
      obtain ⟨fso, hso⟩ := E1.obj
      refine v_istore (L' := [(4, _), (0, _), (1, _), (2, _), (3, _)]) dX12_run_47 (Nat.le_of_ble_eq_true rfl) rfl ?_
      refine v_iload dX12_run_49 0 rfl ?_
      refine v_if_eq (tgt := 77) dX12_run_51 (by decide) (fun c_51 => ?_) (fun c_51 => ?_)
      · exact absurd c_51 (by decide)
      · refine v_iload_n dX12_run_54 rfl 4 rfl ?_
        refine v_if_eq (tgt := 87) dX12_run_55 (by decide) (fun c_55 => ?_) (fun c_55 => ?_)
        · exact absurd c_55 (by decide)
        · refine v_aload_n dX12_run_58 rfl 1 rfl ?_
          refine v_getf 3 (ci := 10) (C := RX12) (T := TX12) (N := 13) rfl iwX12_run_X12 (Nat.le_of_ble_eq_true rfl) (by decide +kernel) dX12_run_59 (by first | with_reducible assumption) rfl ?_
          refine v_aload_n dX12_run_62 rfl 1 rfl ?_
          refine v_getf 10 (ci := 10) (C := RX12) (T := TX12) (N := 13) rfl iwX12_run_X12 (Nat.le_of_ble_eq_true rfl) (by decide +kernel) dX12_run_63 (by first | with_reducible assumption) rfl ?_
          refine v_iload_n dX12_run_66 rfl 3 rfl ?_
          refine v_aload_n dX12_run_67 rfl 1 rfl ?_
          refine v_getf 11 (ci := 10) (C := RX12) (T := TX12) (N := 13) rfl iwX12_run_X12 (Nat.le_of_ble_eq_true rfl) (by decide +kernel) dX12_run_68 (by first | with_reducible assumption) rfl ?_
          refine v_callVq (M' := mX1_layOut) (n := 3) (As := [_, _, _]) (ci := 0) (r := (RX1, TX1, 6)) gX12_run_X1_layOut rfl (by decide +kernel) ⟨(Nat.le_of_ble_eq_true rfl), (Nat.le_of_ble_eq_true rfl)⟩ rfl rfl dX12_run_71 rfl ⟨(Nat.le_of_ble_eq_true rfl), (Nat.le_of_ble_eq_true rfl)⟩ (Nat.le_of_ble_eq_true rfl) (by first | with_reducible assumption) rfl (c_layOut G h1 _ b k nc np pl R hm p3 p4 pa ma sz ly vo ar mp (fun c => oc_n np pl R hm p3 p4 nc c) Z1 _ _ C1 M1 V1 f34 B1 Lc fo fl hd3 (by omega) (by omega) (by have := E1.tO hEB; rw [hLc] at this; exact this) L1_ hok hcell hM cl hcl hL0) (fun v h2 z2 hq9 => ?_)
          obtain ⟨rfl, hv2, ⟨hm2, E2⟩, M2, V2, ⟨g34, B2⟩, F2⟩ := hq9
          rw [if_neg (Nat.not_le.mpr hbig)] at hv2
          subst hv2
          have D2 := (F2 b (by omega) (by omega) (by omega)).trans D1
          have C2 := (F2 (b + 32) (by omega) (by omega) (by omega)).trans C1
          have N2 : sn_ G b h2 := N1.frame (fun a p1 p2 => F2 a (by omega) (by omega) (by omega))
          have A62 : ab_I G h2 (b + 6) 16 f6 := (F2 _ (by omega) (by omega) (by omega)).trans A6
          have A72 : ab_I G h2 (b + 7) 16 f7 := (F2 _ (by omega) (by omega) (by omega)).trans A7
          have W28 : ab_J G h2 (b + 182) 8 w8 := (F2 _ (by omega) (by omega) (by omega)).trans W18
          have W21 := (F2 (b + 180) (by omega) (by omega) (by omega)).trans W11
          have W22 : ab_J G h2 (b + 181) 320 wf := (F2 _ (by omega) (by omega) (by omega)).trans W12
          have O2_ : ab_any G h2 fo := E1.any.kept (fun a p1 p2 => F2 a (by omega) (by omega) (by omega))
          refine v_if_ne (tgt := 87) dX12_run_74 (by decide) (fun c_74 => ?_) (fun c_74 => ?_)
          · exact absurd rfl c_74
          · exact v_throw (ik := 202) (is := 204) (ic := 206) (cls := "java/lang/UnsupportedOperationException") (text := "too many occurrences or violations") (names := ["java/lang/RuntimeException", "java/lang/Exception"]) hl0 rfl (by decide +kernel) (by decide +kernel) (by decide +kernel) (by decide +kernel) (by decide +kernel) (by decide +kernel) (by decide +kernel) sv_bwU (by decide +kernel) dX12_run_77 dX12_run_80 dX12_run_81 dX12_run_83 dX12_run_86 rfl (Nat.le_of_ble_eq_true rfl) (Nat.le_of_ble_eq_true rfl) (Nat.le_of_ble_eq_true rfl) (Nat.le_of_ble_eq_true rfl) (fun z9 hz9 => ⟨rfl, D2.trans hD.symm, O2_, E2.any, ⟨f6, A62⟩, ⟨f7, A72⟩, (ab_Chk.mk9 (Or.inr ⟨_, rfl⟩) (Or.inr ⟨_, rfl⟩) C2 ⟨g34, B2⟩ N2 M2 V2), ⟨w8, W28⟩, fun a p1 p2 p3_ p4_ p5 p6 p7 => (F2 a (by omega) (by omega) p7).trans (F1 a p2 p3_ (by omega) (by omega) p6)⟩)
    · exact absurd c_16 (by rw [if_pos hc0]; decide)

set_option maxHeartbeats 4000000 in
set_option maxRecDepth 100000 in
theorem c_runD (G : sv_G) (hl0 : G.1.stackTraces = false) (hki : sv_ki G) (h : sv_h) (z b : Nat) (k : Int32) (nc np pl : Nat) (R : Nat → Bool) (hm p3 p4 pa ma sz : Nat → Nat) (ly vo ar : Nat → Int32) (mp : Nat → mvT) (Z9 : sy_ G h b k nc np pl R hm p3 p4 pa ma sz ly vo ar mp) (X Y : Nat → Nat → Int) (fc : Nat → Nat → Nat) (oc : Nat → Nat → Option Nat) (PX : px_ G h np R pa sz X Y fc oc) (CK : ab_Chk G h b) (ru nr : Nat) (frl : Nat → Option Nat) (hrow : ab_Q G h ru 5 20 frl) (hfrl : ∀ j, j < 20 → frl j = some (ru + 1 + j)) (hruv : ru = b + 183 ∨ ru = b + 11) (ri : Nat) (hri : ri < nr) (hnr : nr ≤ 20) (n0 : Int64) (kd : Nat) (hkd : kd < 11) (l1 l2 x3 x4 x5 x6 : Int32) (hrl : h (ru + 1 + ri) = some (.inr (5, [.long n0, .ref (G.2.2.2.2.1 kd), .int l1, .int l2, .int x3, .int x4, .int x5, .int x6]))) (la fo fl : Nat) (hla : b + 204 ≤ la ∧ la + 4 ≤ b + 216) (hfo : b + 204 ≤ fo ∧ fo + 4 ≤ b + 216) (hfl : b + 204 ≤ fl ∧ fl + 4 ≤ b + 216) (hd1 : la + 4 ≤ fo ∨ fo + 4 ≤ la) (hd2 : la + 4 ≤ fl ∨ fl + 4 ≤ la) (hd3 : fo + 4 ≤ fl ∨ fl + 4 ≤ fo) (lX lf : Int32) (hD : h b = some (.inr (10, [.ref (b + 1), .ref (b + 8), .ref (b + 10), .ref (b + 32), .ref (b + 180), .ref ru, .int (nI nr), .int lX, .int lf, .ref la, .ref fo, .ref fl, .ref (b + 216)]))) (Afo : ab_any G h fo) (Afl : ab_any G h fl) (nw : Nat) (wr : Nat → Int64) (WV : ab_wv G h b nw wr) (hC : coB np R sz X Y) (hM : ∀ i, i < pl → mvB mp i) (har : ∀ p, p < np → R p = true → bd (ar p).toInt) (rk : Nat → Nat) (hr : ∀ i, i < pl → rk (p4 i) < rk (p3 i)) (hrk : ∀ c, c < nc → rk c < nc) (cl : Nat) (hcl : cl < nc) (g : Nat → Bool) (hg : ∀ d, d < 16 → (g d = true ↔ gr_R pl p3 p4 cl d)) (Lc : Nat → List (List Int64)) (hLc : (jCol kd l1 l2 x3 x4 x5 x6 np pl R hm p3 p4 ly vo ar mp sz X Y fc oc nc g cl) = ((List.range 16).flatMap Lc)) (hok : ∀ c, c < 16 → ∀ x, x < (Lc c).length → rok ((Lc c).getD x [])) (hcell : ∀ c, c < 16 → ∀ x, x < (Lc c).length → ((Lc c).getD x []).getD 7 0 = (nI c).toInt64) (hL0 : ∀ i, i < pl → gr_R pl p3 p4 cl (p3 i) → oc_n np pl R hm p3 p4 nc (p4 i) = 0 → ∀ f w, lS pl p3 p4 mp Lc f (p4 i) w = []) (hN : (oc_n np pl R hm p3 p4 nc cl) ≤ 100) (hEB : (jCol kd l1 l2 x3 x4 x5 x6 np pl R hm p3 p4 ly vo ar mp sz X Y fc oc nc g cl).length ≤ 1500) (hEF : (lS pl p3 p4 mp Lc 16 cl []).length ≤ 1500) : CX G mX12_run [.ref b, .int (nI ri), .int (nI cl), .int 1] h z (fun v h3 z3 => z3 = z ∧ ∃ L1 : List (List Int64), v = some (.int (nI L1.length)) ∧ L1.Perm ((lS pl p3 p4 mp Lc 16 cl []).filter (fun r => !cvB wr nw (nI ri) r)) ∧ L1.Pairwise (fun x y => leR false x y = true) ∧ tO G h3 fl L1 ∧ ab_any G h3 fo ∧ h3 b = some (.inr (10, [.ref (b + 1), .ref (b + 8), .ref (b + 10), .ref (b + 32), .ref (b + 180), .ref ru, .int (nI nr), .int (nI ri), .int 1, .ref fl, .ref fo, .ref la, .ref (b + 216)])) ∧ (∃ f, ab_I G h3 (b + 6) 16 f) ∧ (∃ f, ab_I G h3 (b + 7) 16 f) ∧ ab_Chk G h3 b ∧ (∃ f, ab_J G h3 (b + 182) 8 f) ∧ (∀ a, a ≠ b → a ≠ b + 6 → a ≠ b + 7 → ¬ (b + 32 ≤ a ∧ a < b + 180) → a ≠ b + 182 → ¬ (fo ≤ a ∧ a < fo + 4) → ¬ (fl ≤ a ∧ a < fl + 4) → h3 a = h a)) (fun _ _ _ => False) := by
  refine CX.of (by decide +kernel) rfl rfl (Nat.le_of_ble_eq_true rfl) ?_
  obtain ⟨⟨c4, c5, ck1⟩, ⟨f34, ck2⟩, ck3, ck4, ck5⟩ := CK.opn
  obtain ⟨y1, _⟩ := id Z9
  obtain ⟨wn, w1, ⟨wf, w2, w3⟩, ⟨w8, w4⟩⟩ := id WV
  have hr0 : 0 ≤ nI ri ∧ nI ri < nI nr := ⟨Int32.not_lt.mp (nI_pos (by omega)), nI_lt hri (by omega)⟩
  have hc0 : 0 ≤ nI cl ∧ nI cl < nI nc := ⟨Int32.not_lt.mp (nI_pos (by have := Z9.2.2.2.2.2.2.2.2.2.1; omega)), nI_lt hcl (by have := Z9.2.2.2.2.2.2.2.2.2.1; omega)⟩
  refine v_aload_n dX12_run_0 rfl 0 rfl ?_
  refine v_iload_n dX12_run_1 rfl 1 rfl ?_
  refine v_callVq (M' := mX12_hasRule) (n := 1) (As := [_]) (ci := 10) (r := (RX12, TX12, 13)) gX12_run_X12_hasRule rfl (by decide +kernel) ⟨(Nat.le_of_ble_eq_true rfl), (Nat.le_of_ble_eq_true rfl)⟩ rfl rfl dX12_run_2 rfl ⟨(Nat.le_of_ble_eq_true rfl), (Nat.le_of_ble_eq_true rfl)⟩ (Nat.le_of_ble_eq_true rfl) (by repeat (first | with_reducible assumption | (with_reducible refine sv_us.trans ?_; exact rfl) | with_reducible refine (sv_un (by omega)).trans ?_)) rfl (c_hasRule G h _ b (nI ri) _ _ _ _ _ _ _ _ _ _ _ _ _ hD) (fun v9 h9 y9 hq => v_pq hq ?_)
  refine v_if_eq (tgt := 19) dX12_run_5 (by decide) (fun c_5 => ?_) (fun c_5 => ?_)
  · exact absurd c_5 (by rw [if_pos hr0]; decide)
  · refine v_aload_n dX12_run_8 rfl 0 rfl ?_
    refine v_getf 0 (ci := 10) (C := RX12) (T := TX12) (N := 13) rfl iwX12_run_X12 (Nat.le_of_ble_eq_true rfl) (by decide +kernel) dX12_run_9 (by repeat (first | with_reducible assumption | (with_reducible refine sv_us.trans ?_; exact rfl) | with_reducible refine (sv_un (by omega)).trans ?_)) (by exact rfl) ?_
    refine v_iload_n dX12_run_12 rfl 2 rfl ?_
    refine v_callVq (M' := mX3_hasCell) (n := 1) (As := [_]) (ci := 1) (r := (RX3, TX3, 10)) gX12_run_X3_hasCell rfl (by decide +kernel) ⟨(Nat.le_of_ble_eq_true rfl), (Nat.le_of_ble_eq_true rfl)⟩ rfl rfl dX12_run_13 rfl ⟨(Nat.le_of_ble_eq_true rfl), (Nat.le_of_ble_eq_true rfl)⟩ (Nat.le_of_ble_eq_true rfl) (by repeat (first | with_reducible assumption | (with_reducible refine sv_us.trans ?_; exact rfl) | with_reducible refine (sv_un (by omega)).trans ?_)) rfl (c_hasCell G h _ (b + 1) (nI cl) _ _ _ _ _ _ _ _ _ _ y1) (fun v9 h9 y9 hq => v_pq hq ?_)
    refine v_if_ne (tgt := 29) dX12_run_16 (by decide) (fun c_16 => ?_) (fun c_16 => ?_)
    · refine v_aload_n dX12_run_29 rfl 0 rfl ?_
      refine v_getf 3 (ci := 10) (C := RX12) (T := TX12) (N := 13) rfl iwX12_run_X12 (Nat.le_of_ble_eq_true rfl) (by decide +kernel) dX12_run_30 (by repeat (first | with_reducible assumption | (with_reducible refine sv_us.trans ?_; exact rfl) | with_reducible refine (sv_un (by omega)).trans ?_)) (by exact rfl) ?_
      refine v_aload_n dX12_run_33 rfl 0 rfl ?_
      refine v_getf 5 (ci := 10) (C := RX12) (T := TX12) (N := 13) rfl iwX12_run_X12 (Nat.le_of_ble_eq_true rfl) (by decide +kernel) dX12_run_34 (by repeat (first | with_reducible assumption | (with_reducible refine sv_us.trans ?_; exact rfl) | with_reducible refine (sv_un (by omega)).trans ?_)) (by exact rfl) ?_
      refine v_iload_n dX12_run_37 rfl 1 rfl ?_
      refine v_aaldS (t := 5) (q := ru + 1 + ri) dX12_run_38 (fun _ => rfl) (by repeat (first | with_reducible assumption | (with_reducible refine sv_us.trans ?_; exact rfl) | with_reducible refine (sv_un (by omega)).trans ?_)) (vp_in_nI (by omega) (by omega)) (by rw [nI_clamp (by omega)]; exact hfrl ri (by omega)) ?_
      refine v_iload_n dX12_run_39 rfl 2 rfl ?_
      refine v_aload_n dX12_run_40 rfl 0 rfl ?_
      refine v_getf 10 (ci := 10) (C := RX12) (T := TX12) (N := 13) rfl iwX12_run_X12 (Nat.le_of_ble_eq_true rfl) (by decide +kernel) dX12_run_41 (by repeat (first | with_reducible assumption | (with_reducible refine sv_us.trans ?_; exact rfl) | with_reducible refine (sv_un (by omega)).trans ?_)) (by exact rfl) ?_
      refine v_callVq (M' := mX1_collect) (n := 3) (As := [_, _, _]) (ci := 0) (r := (RX1, TX1, 6)) gX12_run_X1_collect rfl (by decide +kernel) ⟨(Nat.le_of_ble_eq_true rfl), (Nat.le_of_ble_eq_true rfl)⟩ rfl rfl dX12_run_44 rfl ⟨(Nat.le_of_ble_eq_true rfl), (Nat.le_of_ble_eq_true rfl)⟩ (Nat.le_of_ble_eq_true rfl) (by repeat (first | with_reducible assumption | (with_reducible refine sv_us.trans ?_; exact rfl) | with_reducible refine (sv_un (by omega)).trans ?_)) rfl (c_collect G hki h _ b k nc np pl R hm p3 p4 pa ma sz ly vo ar mp Z9 X Y fc oc PX ck3 (ru + 1 + ri) (by omega) n0 kd hkd l1 l2 x3 x4 x5 x6 hrl (by omega) fo (by omega) (by omega) c4 c5 ck1 Afo hC hM har rk hr hrk cl hcl g hg) (fun v h1 z1 hq9 => ?_)
      obtain ⟨rfl, hq9⟩ := hq9
      rcases hq9 with ⟨q1, _⟩ | ⟨q1, hv, ⟨hm1, E1⟩, Z1, ⟨f7, A7⟩, P1, N1, C1, F1⟩
      · exact absurd q1 (by omega)
      rw [if_pos hEB] at hv
      subst hv
      obtain ⟨_, _, _, _, _, ⟨f6, A6, _⟩, _⟩ := id Z1
      have D1 := (F1 b (by omega) (by omega) (by omega) (by omega) (by omega)).trans hD
      have M1 : ab_mvs G h1 (b + 33) 16 (b + 164) := mvs_k ck4 (F1 _ (by omega) (by omega) (by omega) (by omega) (by omega)) (fun j hj => F1 _ (by omega) (by omega) (by omega) (by omega) (by omega))
      have V1 : ab_mv0 G h1 (b + 164) := (F1 _ (by omega) (by omega) (by omega) (by omega) (by omega)).trans ck5
      have B1 : ab_I G h1 (b + 34) 17 f34 := (F1 _ (by omega) (by omega) (by omega) (by omega) (by omega)).trans ck2
      have L1_ : ab_any G h1 fl := Afl.kept (fun a p1 p2 => F1 a (by omega) (by omega) (by omega) (by omega) (by omega))
      have W18 : ab_J G h1 (b + 182) 8 w8 := (F1 _ (by omega) (by omega) (by omega) (by omega) (by omega)).trans w4
      have W11 := (F1 (b + 180) (by omega) (by omega) (by omega) (by omega) (by omega)).trans w1
      have W12 : ab_J G h1 (b + 181) 320 wf := (F1 (b + 181) (by omega) (by omega) (by omega) (by omega) (by omega)).trans w2
      obtain ⟨fso, hso⟩ := E1.obj
      refine v_istore (L' := [(4, _), (0, _), (1, _), (2, _), (3, _)]) dX12_run_47 (Nat.le_of_ble_eq_true rfl) rfl ?_
      refine v_iload dX12_run_49 0 rfl ?_
      refine v_if_eq (tgt := 77) dX12_run_51 (by decide) (fun c_51 => ?_) (fun c_51 => ?_)
      · exact absurd c_51 (by decide)
      · refine v_iload_n dX12_run_54 rfl 4 rfl ?_
        refine v_if_eq (tgt := 87) dX12_run_55 (by decide) (fun c_55 => ?_) (fun c_55 => ?_)
        · exact absurd c_55 (by decide)
        · refine v_aload_n dX12_run_58 rfl 1 rfl ?_
          refine v_getf 3 (ci := 10) (C := RX12) (T := TX12) (N := 13) rfl iwX12_run_X12 (Nat.le_of_ble_eq_true rfl) (by decide +kernel) dX12_run_59 (by repeat (first | with_reducible assumption | (with_reducible refine sv_us.trans ?_; exact rfl) | with_reducible refine (sv_un (by omega)).trans ?_)) (by exact rfl) ?_
          refine v_aload_n dX12_run_62 rfl 1 rfl ?_
          refine v_getf 10 (ci := 10) (C := RX12) (T := TX12) (N := 13) rfl iwX12_run_X12 (Nat.le_of_ble_eq_true rfl) (by decide +kernel) dX12_run_63 (by repeat (first | with_reducible assumption | (with_reducible refine sv_us.trans ?_; exact rfl) | with_reducible refine (sv_un (by omega)).trans ?_)) (by exact rfl) ?_
          refine v_iload_n dX12_run_66 rfl 3 rfl ?_
          refine v_aload_n dX12_run_67 rfl 1 rfl ?_
          refine v_getf 11 (ci := 10) (C := RX12) (T := TX12) (N := 13) rfl iwX12_run_X12 (Nat.le_of_ble_eq_true rfl) (by decide +kernel) dX12_run_68 (by repeat (first | with_reducible assumption | (with_reducible refine sv_us.trans ?_; exact rfl) | with_reducible refine (sv_un (by omega)).trans ?_)) (by exact rfl) ?_
          refine v_callVq (M' := mX1_layOut) (n := 3) (As := [_, _, _]) (ci := 0) (r := (RX1, TX1, 6)) gX12_run_X1_layOut rfl (by decide +kernel) ⟨(Nat.le_of_ble_eq_true rfl), (Nat.le_of_ble_eq_true rfl)⟩ rfl rfl dX12_run_71 rfl ⟨(Nat.le_of_ble_eq_true rfl), (Nat.le_of_ble_eq_true rfl)⟩ (Nat.le_of_ble_eq_true rfl) (by repeat (first | with_reducible assumption | (with_reducible refine sv_us.trans ?_; exact rfl) | with_reducible refine (sv_un (by omega)).trans ?_)) rfl (c_layOut G h1 _ b k nc np pl R hm p3 p4 pa ma sz ly vo ar mp (fun c => oc_n np pl R hm p3 p4 nc c) Z1 _ _ C1 M1 V1 f34 B1 Lc fo fl hd3 (by omega) (by omega) (by have := E1.tO hEB; rw [hLc] at this; exact this) L1_ hok hcell hM cl hcl hL0) (fun v h2 z2 hq9 => ?_)
          obtain ⟨rfl, hv2, ⟨hm2, E2⟩, M2, V2, ⟨g34, B2⟩, F2⟩ := hq9
          rw [if_pos hEF] at hv2
          subst hv2
          have D2 := (F2 b (by omega) (by omega) (by omega)).trans D1
          have C2 := (F2 (b + 32) (by omega) (by omega) (by omega)).trans C1
          have N2 : sn_ G b h2 := N1.frame (fun a p1 p2 => F2 a (by omega) (by omega) (by omega))
          have A62 : ab_I G h2 (b + 6) 16 f6 := (F2 _ (by omega) (by omega) (by omega)).trans A6
          have A72 : ab_I G h2 (b + 7) 16 f7 := (F2 _ (by omega) (by omega) (by omega)).trans A7
          have W28 : ab_J G h2 (b + 182) 8 w8 := (F2 _ (by omega) (by omega) (by omega)).trans W18
          have W21 := (F2 (b + 180) (by omega) (by omega) (by omega)).trans W11
          have W22 : ab_J G h2 (b + 181) 320 wf := (F2 _ (by omega) (by omega) (by omega)).trans W12
          have O2_ : ab_any G h2 fo := E1.any.kept (fun a p1 p2 => F2 a (by omega) (by omega) (by omega))
          refine v_if_ne (tgt := 87) dX12_run_74 (by decide) (fun c_74 => ?_) (fun c_74 => ?_)
          · refine v_aload_n dX12_run_87 rfl 1 rfl ?_
            refine v_getf 9 (ci := 10) (C := RX12) (T := TX12) (N := 13) rfl iwX12_run_X12 (Nat.le_of_ble_eq_true rfl) (by decide +kernel) dX12_run_88 (by repeat (first | with_reducible assumption | (with_reducible refine sv_us.trans ?_; exact rfl) | with_reducible refine (sv_un (by omega)).trans ?_)) (by exact rfl) ?_
            refine v_astore (L' := [(5, _), (4, _), (0, _), (1, _), (2, _), (3, _)]) dX12_run_91 (Nat.le_of_ble_eq_true rfl) rfl ?_
            refine v_iload_n dX12_run_93 rfl 5 rfl ?_
            refine v_if_eq (tgt := 119) dX12_run_94 (by decide) (fun c_94 => ?_) (fun c_94 => ?_)
            · exact absurd c_94 (by decide)
            · refine v_aload_n dX12_run_97 rfl 2 rfl ?_
              refine v_iload_n dX12_run_98 rfl 3 rfl ?_
              refine v_callVq (M' := mX12_tellFlat) (n := 1) (As := [_]) (ci := 10) (r := (RX12, TX12, 13)) gX12_run_X12_tellFlat rfl (by decide +kernel) ⟨(Nat.le_of_ble_eq_true rfl), (Nat.le_of_ble_eq_true rfl)⟩ rfl rfl dX12_run_99 rfl ⟨(Nat.le_of_ble_eq_true rfl), (Nat.le_of_ble_eq_true rfl)⟩ (Nat.le_of_ble_eq_true rfl) (by repeat (first | with_reducible assumption | (with_reducible refine sv_us.trans ?_; exact rfl) | with_reducible refine (sv_un (by omega)).trans ?_)) rfl (c_tellFlat G _ b fl nw wr (nI ri) _ h2 W21 wf W22 w3 wn (by omega) (by omega) ru nr la fo lX lf D2 ⟨w8, W28⟩ (E2.tO hEF)) (fun v h3 z3 hq9 => ?_)
              obtain ⟨rfl, rfl, ⟨L1, H3, Q3, S3⟩, G8, F3⟩ := hq9
              obtain ⟨_, ax, aus, aov, ahm, aod, aw, _, a2, _⟩ := H3.ob
              obtain ⟨g8, G8⟩ := G8
              have D3 := (F3 b (by omega) (by omega)).trans D2
              refine v_aload_n dX12_run_102 rfl 2 rfl ?_
              refine v_aload_n dX12_run_103 rfl 2 rfl ?_
              refine v_getf 11 (ci := 10) (C := RX12) (T := TX12) (N := 13) rfl iwX12_run_X12 (Nat.le_of_ble_eq_true rfl) (by decide +kernel) dX12_run_104 (by repeat (first | with_reducible assumption | (with_reducible refine sv_us.trans ?_; exact rfl) | with_reducible refine (sv_un (by omega)).trans ?_)) (by exact rfl) ?_
              refine v_putf 9 (fs' := [_, _, _, _, _, _, _, _, _, _, _, _, _]) (ci := 10) (C := RX12) (T := TX12) (N := 13) (ty := (.object "RuleDeck$Told")) rfl iwX12_run_X12 tyX12 tyX12_ok nmX12 (Nat.le_of_ble_eq_true rfl) (by decide +kernel) rfl rfl dX12_run_107 rfl rfl (by repeat (first | with_reducible assumption | (with_reducible refine sv_us.trans ?_; exact rfl) | with_reducible refine (sv_un (by omega)).trans ?_)) (Nat.le_of_ble_eq_true rfl) rfl ?_
              refine v_aload_n dX12_run_110 rfl 2 rfl ?_
              refine v_aload dX12_run_111 0 rfl ?_
              refine v_putf 11 (fs' := [_, _, _, _, _, _, _, _, _, _, _, _, _]) (ci := 10) (C := RX12) (T := TX12) (N := 13) (ty := (.object "RuleDeck$Told")) rfl iwX12_run_X12 tyX12 tyX12_ok nmX12 (Nat.le_of_ble_eq_true rfl) (by decide +kernel) rfl rfl dX12_run_113 rfl rfl (by repeat (first | with_reducible assumption | (with_reducible refine sv_us.trans ?_; exact rfl) | with_reducible refine (sv_un (by omega)).trans ?_)) (Nat.le_of_ble_eq_true rfl) rfl ?_
              refine v_goto (tgt := 138) dX12_run_116 (by decide) ?_
              refine v_aload_n dX12_run_138 rfl 2 rfl ?_
              refine v_iload_n dX12_run_139 rfl 3 rfl ?_
              refine v_putf 7 (fs' := [_, _, _, _, _, _, _, _, _, _, _, _, _]) (ci := 10) (C := RX12) (T := TX12) (N := 13) (ty := .int) rfl iwX12_run_X12 tyX12 tyX12_ok nmX12 (Nat.le_of_ble_eq_true rfl) (by decide +kernel) rfl rfl dX12_run_140 rfl rfl (by repeat (first | with_reducible assumption | (with_reducible refine sv_us.trans ?_; exact rfl) | with_reducible refine (sv_un (by omega)).trans ?_)) (Nat.le_of_ble_eq_true rfl) rfl ?_
              refine v_aload_n dX12_run_143 rfl 2 rfl ?_
              refine v_iload_n dX12_run_144 rfl 5 rfl ?_
              refine v_putf 8 (fs' := [_, _, _, _, _, _, _, _, _, _, _, _, _]) (ci := 10) (C := RX12) (T := TX12) (N := 13) (ty := .boolean) rfl iwX12_run_X12 tyX12 tyX12_ok nmX12 (Nat.le_of_ble_eq_true rfl) (by decide +kernel) rfl rfl dX12_run_145 rfl rfl (by repeat (first | with_reducible assumption | (with_reducible refine sv_us.trans ?_; exact rfl) | with_reducible refine (sv_un (by omega)).trans ?_)) (Nat.le_of_ble_eq_true rfl) rfl ?_
              refine v_aload_n dX12_run_148 rfl 2 rfl ?_
              refine v_getf 9 (ci := 10) (C := RX12) (T := TX12) (N := 13) rfl iwX12_run_X12 (Nat.le_of_ble_eq_true rfl) (by decide +kernel) dX12_run_149 (by repeat (first | with_reducible assumption | (with_reducible refine sv_us.trans ?_; exact rfl) | with_reducible refine (sv_un (by omega)).trans ?_)) (by exact rfl) ?_
              refine v_getf 4 (ci := 8) (C := RX10) (T := TX10) (N := 7) rfl iwX12_run_X10 (Nat.le_of_ble_eq_true rfl) (by decide +kernel) dX12_run_152 (by repeat (first | with_reducible assumption | (with_reducible refine sv_us.trans ?_; exact rfl) | with_reducible refine (sv_un (by omega)).trans ?_)) (by exact rfl) ?_
              exact v_xret (v_iret rfl dX12_run_155 (Nat.le_of_ble_eq_true rfl) (Nat.le_of_ble_eq_true rfl) rfl ⟨rfl, L1, rfl, Q3, S3, H3.kept (fun a p1 p2 => (sv_un (by omega)).trans ((sv_un (by omega)).trans ((sv_un (by omega)).trans ((sv_un (by omega)).trans rfl)))), O2_.kept (fun a p1 p2 => (sv_un (by omega)).trans ((sv_un (by omega)).trans ((sv_un (by omega)).trans ((sv_un (by omega)).trans (F3 a (by omega) (by omega)))))), sv_us, ⟨f6, (sv_un (by omega)).trans ((sv_un (by omega)).trans ((sv_un (by omega)).trans ((sv_un (by omega)).trans ((F3 _ (by omega) (by omega)).trans A62))))⟩, ⟨f7, (sv_un (by omega)).trans ((sv_un (by omega)).trans ((sv_un (by omega)).trans ((sv_un (by omega)).trans ((F3 _ (by omega) (by omega)).trans A72))))⟩, ((ab_Chk.mk9 (Or.inr ⟨_, rfl⟩) (Or.inr ⟨_, rfl⟩) C2 ⟨g34, B2⟩ N2 M2 V2).kept (fun a p1 p2 => (sv_un (by omega)).trans ((sv_un (by omega)).trans ((sv_un (by omega)).trans ((sv_un (by omega)).trans (F3 a (by omega) (by omega))))))), ⟨g8, (sv_un (by omega)).trans ((sv_un (by omega)).trans ((sv_un (by omega)).trans ((sv_un (by omega)).trans G8)))⟩, fun a p1 p2 p3_ p4_ p5 p6 p7 => (sv_un (by omega)).trans ((sv_un (by omega)).trans ((sv_un (by omega)).trans ((sv_un (by omega)).trans ((F3 a p5 p7).trans ((F2 a (by omega) (by omega) p7).trans (F1 a p2 p3_ (by omega) (by omega) p6))))))⟩)
          · exact absurd c_74 (by decide)
    · exact absurd c_16 (by rw [if_pos hc0]; decide)

set_option maxHeartbeats 4000000 in
set_option maxRecDepth 100000 in
theorem c_runE (G : sv_G) (hl0 : G.1.stackTraces = false) (hki : sv_ki G) (h : sv_h) (z b : Nat) (k : Int32) (nc np pl : Nat) (R : Nat → Bool) (hm p3 p4 pa ma sz : Nat → Nat) (ly vo ar : Nat → Int32) (mp : Nat → mvT) (Z9 : sy_ G h b k nc np pl R hm p3 p4 pa ma sz ly vo ar mp) (X Y : Nat → Nat → Int) (fc : Nat → Nat → Nat) (oc : Nat → Nat → Option Nat) (PX : px_ G h np R pa sz X Y fc oc) (CK : ab_Chk G h b) (ru nr : Nat) (frl : Nat → Option Nat) (hrow : ab_Q G h ru 5 20 frl) (hfrl : ∀ j, j < 20 → frl j = some (ru + 1 + j)) (hruv : ru = b + 183 ∨ ru = b + 11) (ri : Nat) (hri : ri < nr) (hnr : nr ≤ 20) (n0 : Int64) (kd : Nat) (hkd : kd < 11) (l1 l2 x3 x4 x5 x6 : Int32) (hrl : h (ru + 1 + ri) = some (.inr (5, [.long n0, .ref (G.2.2.2.2.1 kd), .int l1, .int l2, .int x3, .int x4, .int x5, .int x6]))) (la fo fl : Nat) (hla : b + 204 ≤ la ∧ la + 4 ≤ b + 216) (hfo : b + 204 ≤ fo ∧ fo + 4 ≤ b + 216) (hfl : b + 204 ≤ fl ∧ fl + 4 ≤ b + 216) (hd1 : la + 4 ≤ fo ∨ fo + 4 ≤ la) (hd2 : la + 4 ≤ fl ∨ fl + 4 ≤ la) (hd3 : fo + 4 ≤ fl ∨ fl + 4 ≤ fo) (lX lf : Int32) (hD : h b = some (.inr (10, [.ref (b + 1), .ref (b + 8), .ref (b + 10), .ref (b + 32), .ref (b + 180), .ref ru, .int (nI nr), .int lX, .int lf, .ref la, .ref fo, .ref fl, .ref (b + 216)]))) (Afo : ab_any G h fo) (Afl : ab_any G h fl) (nw : Nat) (wr : Nat → Int64) (WV : ab_wv G h b nw wr) (hC : coB np R sz X Y) (hM : ∀ i, i < pl → mvB mp i) (har : ∀ p, p < np → R p = true → bd (ar p).toInt) (rk : Nat → Nat) (hr : ∀ i, i < pl → rk (p4 i) < rk (p3 i)) (hrk : ∀ c, c < nc → rk c < nc) (cl : Nat) (hcl : cl < nc) (g : Nat → Bool) (hg : ∀ d, d < 16 → (g d = true ↔ gr_R pl p3 p4 cl d)) (Lc : Nat → List (List Int64)) (hLc : (jCol kd l1 l2 x3 x4 x5 x6 np pl R hm p3 p4 ly vo ar mp sz X Y fc oc nc g cl) = ((List.range 16).flatMap Lc)) (hok : ∀ c, c < 16 → ∀ x, x < (Lc c).length → rok ((Lc c).getD x [])) (hcell : ∀ c, c < 16 → ∀ x, x < (Lc c).length → ((Lc c).getD x []).getD 7 0 = (nI c).toInt64) (hL0 : ∀ i, i < pl → gr_R pl p3 p4 cl (p3 i) → oc_n np pl R hm p3 p4 nc (p4 i) = 0 → ∀ f w, lS pl p3 p4 mp Lc f (p4 i) w = []) (hN : (oc_n np pl R hm p3 p4 nc cl) ≤ 100) (hEB : (jCol kd l1 l2 x3 x4 x5 x6 np pl R hm p3 p4 ly vo ar mp sz X Y fc oc nc g cl).length ≤ 1500) : CX G mX12_run [.ref b, .int (nI ri), .int (nI cl), .int 0] h z (fun v h3 z3 => z3 = z ∧ ∃ L1 : List (List Int64), v = some (.int (nI (ddN L1 L1.length).length)) ∧ L1.Perm ((jCol kd l1 l2 x3 x4 x5 x6 np pl R hm p3 p4 ly vo ar mp sz X Y fc oc nc g cl).filter (fun r => !cvB wr nw (nI ri) r)) ∧ L1.Pairwise (fun x y => leR true x y = true) ∧ tO G h3 fo (ddN L1 L1.length) ∧ ab_any G h3 fl ∧ h3 b = some (.inr (10, [.ref (b + 1), .ref (b + 8), .ref (b + 10), .ref (b + 32), .ref (b + 180), .ref ru, .int (nI nr), .int (nI ri), .int 0, .ref fo, .ref la, .ref fl, .ref (b + 216)])) ∧ (∃ f, ab_I G h3 (b + 6) 16 f) ∧ (∃ f, ab_I G h3 (b + 7) 16 f) ∧ ab_Chk G h3 b ∧ (∃ f, ab_J G h3 (b + 182) 8 f) ∧ (∀ a, a ≠ b → a ≠ b + 6 → a ≠ b + 7 → ¬ (b + 32 ≤ a ∧ a < b + 180) → a ≠ b + 182 → ¬ (fo ≤ a ∧ a < fo + 4) → ¬ (fl ≤ a ∧ a < fl + 4) → h3 a = h a)) (fun _ _ _ => False) := by
  refine CX.of (by decide +kernel) rfl rfl (Nat.le_of_ble_eq_true rfl) ?_
  obtain ⟨⟨c4, c5, ck1⟩, ⟨f34, ck2⟩, ck3, ck4, ck5⟩ := CK.opn
  obtain ⟨y1, _⟩ := id Z9
  obtain ⟨wn, w1, ⟨wf, w2, w3⟩, ⟨w8, w4⟩⟩ := id WV
  have hr0 : 0 ≤ nI ri ∧ nI ri < nI nr := ⟨Int32.not_lt.mp (nI_pos (by omega)), nI_lt hri (by omega)⟩
  have hc0 : 0 ≤ nI cl ∧ nI cl < nI nc := ⟨Int32.not_lt.mp (nI_pos (by have := Z9.2.2.2.2.2.2.2.2.2.1; omega)), nI_lt hcl (by have := Z9.2.2.2.2.2.2.2.2.2.1; omega)⟩
  refine v_aload_n dX12_run_0 rfl 0 rfl ?_
  refine v_iload_n dX12_run_1 rfl 1 rfl ?_
  refine v_callVq (M' := mX12_hasRule) (n := 1) (As := [_]) (ci := 10) (r := (RX12, TX12, 13)) gX12_run_X12_hasRule rfl (by decide +kernel) ⟨(Nat.le_of_ble_eq_true rfl), (Nat.le_of_ble_eq_true rfl)⟩ rfl rfl dX12_run_2 rfl ⟨(Nat.le_of_ble_eq_true rfl), (Nat.le_of_ble_eq_true rfl)⟩ (Nat.le_of_ble_eq_true rfl) (by repeat (first | with_reducible assumption | (with_reducible refine sv_us.trans ?_; exact rfl) | with_reducible refine (sv_un (by omega)).trans ?_)) rfl (c_hasRule G h _ b (nI ri) _ _ _ _ _ _ _ _ _ _ _ _ _ hD) (fun v9 h9 y9 hq => v_pq hq ?_)
  refine v_if_eq (tgt := 19) dX12_run_5 (by decide) (fun c_5 => ?_) (fun c_5 => ?_)
  · exact absurd c_5 (by rw [if_pos hr0]; decide)
  · refine v_aload_n dX12_run_8 rfl 0 rfl ?_
    refine v_getf 0 (ci := 10) (C := RX12) (T := TX12) (N := 13) rfl iwX12_run_X12 (Nat.le_of_ble_eq_true rfl) (by decide +kernel) dX12_run_9 (by repeat (first | with_reducible assumption | (with_reducible refine sv_us.trans ?_; exact rfl) | with_reducible refine (sv_un (by omega)).trans ?_)) (by exact rfl) ?_
    refine v_iload_n dX12_run_12 rfl 2 rfl ?_
    refine v_callVq (M' := mX3_hasCell) (n := 1) (As := [_]) (ci := 1) (r := (RX3, TX3, 10)) gX12_run_X3_hasCell rfl (by decide +kernel) ⟨(Nat.le_of_ble_eq_true rfl), (Nat.le_of_ble_eq_true rfl)⟩ rfl rfl dX12_run_13 rfl ⟨(Nat.le_of_ble_eq_true rfl), (Nat.le_of_ble_eq_true rfl)⟩ (Nat.le_of_ble_eq_true rfl) (by repeat (first | with_reducible assumption | (with_reducible refine sv_us.trans ?_; exact rfl) | with_reducible refine (sv_un (by omega)).trans ?_)) rfl (c_hasCell G h _ (b + 1) (nI cl) _ _ _ _ _ _ _ _ _ _ y1) (fun v9 h9 y9 hq => v_pq hq ?_)
    refine v_if_ne (tgt := 29) dX12_run_16 (by decide) (fun c_16 => ?_) (fun c_16 => ?_)
    · refine v_aload_n dX12_run_29 rfl 0 rfl ?_
      refine v_getf 3 (ci := 10) (C := RX12) (T := TX12) (N := 13) rfl iwX12_run_X12 (Nat.le_of_ble_eq_true rfl) (by decide +kernel) dX12_run_30 (by repeat (first | with_reducible assumption | (with_reducible refine sv_us.trans ?_; exact rfl) | with_reducible refine (sv_un (by omega)).trans ?_)) (by exact rfl) ?_
      refine v_aload_n dX12_run_33 rfl 0 rfl ?_
      refine v_getf 5 (ci := 10) (C := RX12) (T := TX12) (N := 13) rfl iwX12_run_X12 (Nat.le_of_ble_eq_true rfl) (by decide +kernel) dX12_run_34 (by repeat (first | with_reducible assumption | (with_reducible refine sv_us.trans ?_; exact rfl) | with_reducible refine (sv_un (by omega)).trans ?_)) (by exact rfl) ?_
      refine v_iload_n dX12_run_37 rfl 1 rfl ?_
      refine v_aaldS (t := 5) (q := ru + 1 + ri) dX12_run_38 (fun _ => rfl) (by repeat (first | with_reducible assumption | (with_reducible refine sv_us.trans ?_; exact rfl) | with_reducible refine (sv_un (by omega)).trans ?_)) (vp_in_nI (by omega) (by omega)) (by rw [nI_clamp (by omega)]; exact hfrl ri (by omega)) ?_
      refine v_iload_n dX12_run_39 rfl 2 rfl ?_
      refine v_aload_n dX12_run_40 rfl 0 rfl ?_
      refine v_getf 10 (ci := 10) (C := RX12) (T := TX12) (N := 13) rfl iwX12_run_X12 (Nat.le_of_ble_eq_true rfl) (by decide +kernel) dX12_run_41 (by repeat (first | with_reducible assumption | (with_reducible refine sv_us.trans ?_; exact rfl) | with_reducible refine (sv_un (by omega)).trans ?_)) (by exact rfl) ?_
      refine v_callVq (M' := mX1_collect) (n := 3) (As := [_, _, _]) (ci := 0) (r := (RX1, TX1, 6)) gX12_run_X1_collect rfl (by decide +kernel) ⟨(Nat.le_of_ble_eq_true rfl), (Nat.le_of_ble_eq_true rfl)⟩ rfl rfl dX12_run_44 rfl ⟨(Nat.le_of_ble_eq_true rfl), (Nat.le_of_ble_eq_true rfl)⟩ (Nat.le_of_ble_eq_true rfl) (by repeat (first | with_reducible assumption | (with_reducible refine sv_us.trans ?_; exact rfl) | with_reducible refine (sv_un (by omega)).trans ?_)) rfl (c_collect G hki h _ b k nc np pl R hm p3 p4 pa ma sz ly vo ar mp Z9 X Y fc oc PX ck3 (ru + 1 + ri) (by omega) n0 kd hkd l1 l2 x3 x4 x5 x6 hrl (by omega) fo (by omega) (by omega) c4 c5 ck1 Afo hC hM har rk hr hrk cl hcl g hg) (fun v h1 z1 hq9 => ?_)
      obtain ⟨rfl, hq9⟩ := hq9
      rcases hq9 with ⟨q1, _⟩ | ⟨q1, hv, ⟨hm1, E1⟩, Z1, ⟨f7, A7⟩, P1, N1, C1, F1⟩
      · exact absurd q1 (by omega)
      rw [if_pos hEB] at hv
      subst hv
      obtain ⟨_, _, _, _, _, ⟨f6, A6, _⟩, _⟩ := id Z1
      have D1 := (F1 b (by omega) (by omega) (by omega) (by omega) (by omega)).trans hD
      have M1 : ab_mvs G h1 (b + 33) 16 (b + 164) := mvs_k ck4 (F1 _ (by omega) (by omega) (by omega) (by omega) (by omega)) (fun j hj => F1 _ (by omega) (by omega) (by omega) (by omega) (by omega))
      have V1 : ab_mv0 G h1 (b + 164) := (F1 _ (by omega) (by omega) (by omega) (by omega) (by omega)).trans ck5
      have B1 : ab_I G h1 (b + 34) 17 f34 := (F1 _ (by omega) (by omega) (by omega) (by omega) (by omega)).trans ck2
      have L1_ : ab_any G h1 fl := Afl.kept (fun a p1 p2 => F1 a (by omega) (by omega) (by omega) (by omega) (by omega))
      have W18 : ab_J G h1 (b + 182) 8 w8 := (F1 _ (by omega) (by omega) (by omega) (by omega) (by omega)).trans w4
      have W11 := (F1 (b + 180) (by omega) (by omega) (by omega) (by omega) (by omega)).trans w1
      have W12 : ab_J G h1 (b + 181) 320 wf := (F1 (b + 181) (by omega) (by omega) (by omega) (by omega) (by omega)).trans w2
      obtain ⟨fso, hso⟩ := E1.obj
      refine v_istore (L' := [(4, _), (0, _), (1, _), (2, _), (3, _)]) dX12_run_47 (Nat.le_of_ble_eq_true rfl) rfl ?_
      refine v_iload dX12_run_49 0 rfl ?_
      refine v_if_eq (tgt := 77) dX12_run_51 (by decide) (fun c_51 => ?_) (fun c_51 => ?_)
      · exact absurd c_51 (by decide)
      · refine v_iload_n dX12_run_54 rfl 4 rfl ?_
        refine v_if_eq (tgt := 87) dX12_run_55 (by decide) (fun c_55 => ?_) (fun c_55 => ?_)
        · refine v_aload_n dX12_run_87 rfl 1 rfl ?_
          refine v_getf 9 (ci := 10) (C := RX12) (T := TX12) (N := 13) rfl iwX12_run_X12 (Nat.le_of_ble_eq_true rfl) (by decide +kernel) dX12_run_88 (by repeat (first | with_reducible assumption | (with_reducible refine sv_us.trans ?_; exact rfl) | with_reducible refine (sv_un (by omega)).trans ?_)) (by exact rfl) ?_
          refine v_astore (L' := [(5, _), (4, _), (0, _), (1, _), (2, _), (3, _)]) dX12_run_91 (Nat.le_of_ble_eq_true rfl) rfl ?_
          refine v_iload_n dX12_run_93 rfl 5 rfl ?_
          refine v_if_eq (tgt := 119) dX12_run_94 (by decide) (fun c_94 => ?_) (fun c_94 => ?_)
          · refine v_aload_n dX12_run_119 rfl 2 rfl ?_
            refine v_iload_n dX12_run_120 rfl 3 rfl ?_
            refine v_callVq (M' := mX12_tellByCells) (n := 1) (As := [_]) (ci := 10) (r := (RX12, TX12, 13)) gX12_run_X12_tellByCells rfl (by decide +kernel) ⟨(Nat.le_of_ble_eq_true rfl), (Nat.le_of_ble_eq_true rfl)⟩ rfl rfl dX12_run_121 rfl ⟨(Nat.le_of_ble_eq_true rfl), (Nat.le_of_ble_eq_true rfl)⟩ (Nat.le_of_ble_eq_true rfl) (by repeat (first | with_reducible assumption | (with_reducible refine sv_us.trans ?_; exact rfl) | with_reducible refine (sv_un (by omega)).trans ?_)) rfl (c_tellByCells G _ b fo nw wr (nI ri) _ h1 W11 wf W12 w3 wn (by omega) (by omega) ru nr la fl lX lf D1 ⟨w8, W18⟩ (E1.tO hEB)) (fun v h3 z3 hq9 => ?_)
            obtain ⟨rfl, rfl, ⟨L1, H3, Q3, S3⟩, G8, F3⟩ := hq9
            obtain ⟨_, ax, aus, aov, ahm, aod, aw, _, a2, _⟩ := H3.ob
            obtain ⟨g8, G8⟩ := G8
            have D3 := (F3 b (by omega) (by omega)).trans D1
            refine v_aload_n dX12_run_124 rfl 2 rfl ?_
            refine v_aload_n dX12_run_125 rfl 2 rfl ?_
            refine v_getf 10 (ci := 10) (C := RX12) (T := TX12) (N := 13) rfl iwX12_run_X12 (Nat.le_of_ble_eq_true rfl) (by decide +kernel) dX12_run_126 (by repeat (first | with_reducible assumption | (with_reducible refine sv_us.trans ?_; exact rfl) | with_reducible refine (sv_un (by omega)).trans ?_)) (by exact rfl) ?_
            refine v_putf 9 (fs' := [_, _, _, _, _, _, _, _, _, _, _, _, _]) (ci := 10) (C := RX12) (T := TX12) (N := 13) (ty := (.object "RuleDeck$Told")) rfl iwX12_run_X12 tyX12 tyX12_ok nmX12 (Nat.le_of_ble_eq_true rfl) (by decide +kernel) rfl rfl dX12_run_129 rfl rfl (by repeat (first | with_reducible assumption | (with_reducible refine sv_us.trans ?_; exact rfl) | with_reducible refine (sv_un (by omega)).trans ?_)) (Nat.le_of_ble_eq_true rfl) rfl ?_
            refine v_aload_n dX12_run_132 rfl 2 rfl ?_
            refine v_aload dX12_run_133 0 rfl ?_
            refine v_putf 10 (fs' := [_, _, _, _, _, _, _, _, _, _, _, _, _]) (ci := 10) (C := RX12) (T := TX12) (N := 13) (ty := (.object "RuleDeck$Told")) rfl iwX12_run_X12 tyX12 tyX12_ok nmX12 (Nat.le_of_ble_eq_true rfl) (by decide +kernel) rfl rfl dX12_run_135 rfl rfl (by repeat (first | with_reducible assumption | (with_reducible refine sv_us.trans ?_; exact rfl) | with_reducible refine (sv_un (by omega)).trans ?_)) (Nat.le_of_ble_eq_true rfl) rfl ?_
            refine v_aload_n dX12_run_138 rfl 2 rfl ?_
            refine v_iload_n dX12_run_139 rfl 3 rfl ?_
            refine v_putf 7 (fs' := [_, _, _, _, _, _, _, _, _, _, _, _, _]) (ci := 10) (C := RX12) (T := TX12) (N := 13) (ty := .int) rfl iwX12_run_X12 tyX12 tyX12_ok nmX12 (Nat.le_of_ble_eq_true rfl) (by decide +kernel) rfl rfl dX12_run_140 rfl rfl (by repeat (first | with_reducible assumption | (with_reducible refine sv_us.trans ?_; exact rfl) | with_reducible refine (sv_un (by omega)).trans ?_)) (Nat.le_of_ble_eq_true rfl) rfl ?_
            refine v_aload_n dX12_run_143 rfl 2 rfl ?_
            refine v_iload_n dX12_run_144 rfl 5 rfl ?_
            refine v_putf 8 (fs' := [_, _, _, _, _, _, _, _, _, _, _, _, _]) (ci := 10) (C := RX12) (T := TX12) (N := 13) (ty := .boolean) rfl iwX12_run_X12 tyX12 tyX12_ok nmX12 (Nat.le_of_ble_eq_true rfl) (by decide +kernel) rfl rfl dX12_run_145 rfl rfl (by repeat (first | with_reducible assumption | (with_reducible refine sv_us.trans ?_; exact rfl) | with_reducible refine (sv_un (by omega)).trans ?_)) (Nat.le_of_ble_eq_true rfl) rfl ?_
            refine v_aload_n dX12_run_148 rfl 2 rfl ?_
            refine v_getf 9 (ci := 10) (C := RX12) (T := TX12) (N := 13) rfl iwX12_run_X12 (Nat.le_of_ble_eq_true rfl) (by decide +kernel) dX12_run_149 (by repeat (first | with_reducible assumption | (with_reducible refine sv_us.trans ?_; exact rfl) | with_reducible refine (sv_un (by omega)).trans ?_)) (by exact rfl) ?_
            refine v_getf 4 (ci := 8) (C := RX10) (T := TX10) (N := 7) rfl iwX12_run_X10 (Nat.le_of_ble_eq_true rfl) (by decide +kernel) dX12_run_152 (by repeat (first | with_reducible assumption | (with_reducible refine sv_us.trans ?_; exact rfl) | with_reducible refine (sv_un (by omega)).trans ?_)) (by exact rfl) ?_
            exact v_xret (v_iret rfl dX12_run_155 (Nat.le_of_ble_eq_true rfl) (Nat.le_of_ble_eq_true rfl) rfl ⟨rfl, L1, rfl, Q3, S3, H3.kept (fun a p1 p2 => (sv_un (by omega)).trans ((sv_un (by omega)).trans ((sv_un (by omega)).trans ((sv_un (by omega)).trans rfl)))), L1_.kept (fun a p1 p2 => (sv_un (by omega)).trans ((sv_un (by omega)).trans ((sv_un (by omega)).trans ((sv_un (by omega)).trans (F3 a (by omega) (by omega)))))), sv_us, ⟨f6, (sv_un (by omega)).trans ((sv_un (by omega)).trans ((sv_un (by omega)).trans ((sv_un (by omega)).trans ((F3 _ (by omega) (by omega)).trans A6))))⟩, ⟨f7, (sv_un (by omega)).trans ((sv_un (by omega)).trans ((sv_un (by omega)).trans ((sv_un (by omega)).trans ((F3 _ (by omega) (by omega)).trans A7))))⟩, ((ab_Chk.mk9 (Or.inr ⟨_, rfl⟩) (Or.inr ⟨_, rfl⟩) C1 ⟨f34, B1⟩ N1 M1 V1).kept (fun a p1 p2 => (sv_un (by omega)).trans ((sv_un (by omega)).trans ((sv_un (by omega)).trans ((sv_un (by omega)).trans (F3 a (by omega) (by omega))))))), ⟨g8, (sv_un (by omega)).trans ((sv_un (by omega)).trans ((sv_un (by omega)).trans ((sv_un (by omega)).trans G8)))⟩, fun a p1 p2 p3_ p4_ p5 p6 p7 => (sv_un (by omega)).trans ((sv_un (by omega)).trans ((sv_un (by omega)).trans ((sv_un (by omega)).trans ((F3 a p5 p6).trans (F1 a p2 p3_ (by omega) (by omega) p6)))))⟩)
          · exact absurd rfl c_94
        · exact absurd rfl c_55
    · exact absurd c_16 (by rw [if_pos hc0]; decide)

set_option maxHeartbeats 4000000 in
set_option maxRecDepth 100000 in
theorem c_run_o2 (G : sv_G) (hl0 : G.1.stackTraces = false) (h : sv_h) (z b ru nr la fo fl : Nat) (lX lf : Int32) (hD : h b = some (.inr (10, [.ref (b + 1), .ref (b + 8), .ref (b + 10), .ref (b + 32), .ref (b + 180), .ref ru, .int (nI nr), .int lX, .int lf, .ref la, .ref fo, .ref fl, .ref (b + 216)]))) (ri : Nat) (hri : ri < nr) (hnr : nr ≤ 20) (po hd hs mo he nh : Nat) (k cs pn pl : Int32) (hly : h (b + 1) = some (.inr (1, [.int k, .int cs, .ref po, .int pn, .ref hd, .ref hs, .ref mo, .int pl, .ref he, .ref nh]))) (c w : Int32) (hg : ¬ (0 ≤ c ∧ c < cs)) : CX G mX12_run [.ref b, .int (nI ri), .int c, .int w] h z (fun _ _ _ => False) (fun E h1 z1 => E = "java/lang/IndexOutOfBoundsException" ∧ h1 = h) := by
  refine CX.of (by decide +kernel) rfl rfl (Nat.le_of_ble_eq_true rfl) ?_
  have hr0 : 0 ≤ nI ri ∧ nI ri < nI nr := ⟨Int32.not_lt.mp (nI_pos (by omega)), nI_lt hri (by omega)⟩
  refine v_aload_n dX12_run_0 rfl 0 rfl ?_
  refine v_iload_n dX12_run_1 rfl 1 rfl ?_
  refine v_callVq (M' := mX12_hasRule) (n := 1) (As := [_]) (ci := 10) (r := (RX12, TX12, 13)) gX12_run_X12_hasRule rfl (by decide +kernel) ⟨(Nat.le_of_ble_eq_true rfl), (Nat.le_of_ble_eq_true rfl)⟩ rfl rfl dX12_run_2 rfl ⟨(Nat.le_of_ble_eq_true rfl), (Nat.le_of_ble_eq_true rfl)⟩ (Nat.le_of_ble_eq_true rfl) (by first | with_reducible assumption) rfl (c_hasRule G h _ b (nI ri) _ _ _ _ _ _ _ _ _ _ _ _ _ hD) (fun v9 h9 y9 hq => v_pq hq ?_)
  refine v_if_eq (tgt := 19) dX12_run_5 (by decide) (fun c_5 => ?_) (fun c_5 => ?_)
  · exact absurd c_5 (by rw [if_pos hr0]; decide)
  · refine v_aload_n dX12_run_8 rfl 0 rfl ?_
    refine v_getf 0 (ci := 10) (C := RX12) (T := TX12) (N := 13) rfl iwX12_run_X12 (Nat.le_of_ble_eq_true rfl) (by decide +kernel) dX12_run_9 (by first | with_reducible assumption) rfl ?_
    refine v_iload_n dX12_run_12 rfl 2 rfl ?_
    refine v_callVq (M' := mX3_hasCell) (n := 1) (As := [_]) (ci := 1) (r := (RX3, TX3, 10)) gX12_run_X3_hasCell rfl (by decide +kernel) ⟨(Nat.le_of_ble_eq_true rfl), (Nat.le_of_ble_eq_true rfl)⟩ rfl rfl dX12_run_13 rfl ⟨(Nat.le_of_ble_eq_true rfl), (Nat.le_of_ble_eq_true rfl)⟩ (Nat.le_of_ble_eq_true rfl) (by first | with_reducible assumption) rfl (c_hasCell G h _ (b + 1) c _ _ _ _ _ _ _ _ _ _ hly) (fun v9 h9 y9 hq => v_pq hq ?_)
    refine v_if_ne (tgt := 29) dX12_run_16 (by decide) (fun c_16 => ?_) (fun c_16 => ?_)
    · exact absurd (by rw [if_neg hg]) c_16
    · exact v_throw (ik := 121) (is := 192) (ic := 125) (cls := "java/lang/IndexOutOfBoundsException") (text := "no such rule or cell") (names := ["java/lang/RuntimeException", "java/lang/Exception"]) hl0 rfl (by decide +kernel) (by decide +kernel) (by decide +kernel) (by decide +kernel) (by decide +kernel) (by decide +kernel) (by decide +kernel) sv_bwO (by decide +kernel) dX12_run_19 dX12_run_22 dX12_run_23 dX12_run_25 dX12_run_28 rfl (Nat.le_of_ble_eq_true rfl) (Nat.le_of_ble_eq_true rfl) (Nat.le_of_ble_eq_true rfl) (Nat.le_of_ble_eq_true rfl) (fun z9 hz9 => ⟨rfl, rfl⟩)

