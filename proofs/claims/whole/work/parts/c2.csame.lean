set_option maxRecDepth 20000 in
set_option maxRecDepth 20000 in
theorem ggX12_same_X1_collect_p0 : GoodIn wsX12_same [.code yX1_collect cX1_collect 6 (some .boolean)] := goodIn_r _ [27] (by decide +kernel) (by decide +kernel)
set_option maxRecDepth 20000 in
theorem ggX12_same_X1_collect_p1 : GoodIn wsX12_same wsX1_collect_r1 := goodIn_r _ [28, 29, 30, 31, 32, 33, 34, 35, 36, 37, 38, 20, 39, 40, 22, 41, 42, 43, 44, 45, 46, 47, 48, 49] (by decide +kernel) (by decide +kernel)
set_option maxRecDepth 20000 in
theorem ggX12_same_X1_collect_p2 : GoodIn wsX12_same wsX1_collect_r2 := goodIn_r _ [50, 51, 52, 53, 54, 55, 56, 57, 58, 59, 60, 61, 62, 63, 64, 65, 66, 67, 68, 69, 70, 71, 26, 72] (by decide +kernel) (by decide +kernel)
set_option maxRecDepth 20000 in
theorem ggX12_same_X1_collect_p3 : GoodIn wsX12_same wsX1_collect_r3 := goodIn_r _ [73, 74, 75, 76, 77, 78, 79, 80, 81, 82, 83, 84, 85, 86, 87, 88, 89, 90, 91, 92, 93, 94, 95, 96] (by decide +kernel) (by decide +kernel)
set_option maxRecDepth 20000 in
theorem ggX12_same_X1_collect_p4 : GoodIn wsX12_same wsX1_collect_r4 := goodIn_r _ [97, 98, 99, 100, 101, 102, 103, 104, 105, 106, 107, 108, 109, 110, 111, 112, 113, 114, 115, 116, 117, 118, 119, 120] (by decide +kernel) (by decide +kernel)
set_option maxRecDepth 20000 in
theorem ggX12_same_X1_collect_p5 : GoodIn wsX12_same wsX1_collect_r5 := goodIn_r _ [121, 122, 123, 124, 125, 126, 127, 128, 129, 130, 131, 132, 133, 134, 135, 136, 137, 138, 139, 140, 141, 142, 143, 144] (by decide +kernel) (by decide +kernel)
set_option maxRecDepth 20000 in
theorem ggX12_same_X1_collect_p6 : GoodIn wsX12_same wsX1_collect_r6 := goodIn_r _ [145, 146, 147, 148, 149, 150, 151, 152, 153, 154, 155, 156, 157, 158, 159, 160, 161, 162, 163, 164, 165, 166, 167, 168] (by decide +kernel) (by decide +kernel)
set_option maxRecDepth 20000 in
theorem ggX12_same_X1_collect_p7 : GoodIn wsX12_same wsX1_collect_r7 := goodIn_r _ [169, 170, 171, 172, 173, 174, 175, 176, 177, 178, 179, 180, 181, 182, 183, 184, 185, 186, 187, 188, 189, 190, 191, 192] (by decide +kernel) (by decide +kernel)
set_option maxRecDepth 20000 in
theorem ggX12_same_X1_collect_p8 : GoodIn wsX12_same wsX1_collect_r8 := goodIn_r _ [193, 194, 195, 196, 197, 198, 199, 200, 201, 202, 203, 204, 205, 206, 207, 208, 209, 210, 211, 212, 213, 214, 215, 216] (by decide +kernel) (by decide +kernel)
set_option maxRecDepth 20000 in
theorem ggX12_same_X1_collect_p9 : GoodIn wsX12_same wsX1_collect_r9 := goodIn_r _ [217, 218, 219, 220, 221, 222, 223, 224, 225, 226, 227, 228, 229, 230, 231, 232, 233, 234, 235, 236, 237, 238, 239, 240] (by decide +kernel) (by decide +kernel)
set_option maxRecDepth 20000 in
theorem ggX12_same_X1_collect_p10 : GoodIn wsX12_same wsX1_collect_r10 := goodIn_r _ [241, 242, 243, 244, 245, 246, 247, 248, 249, 250, 251, 252, 253, 254, 255, 256, 257, 258, 259, 260, 261, 262, 263, 264] (by decide +kernel) (by decide +kernel)
set_option maxRecDepth 20000 in
theorem ggX12_same_X1_collect_p11 : GoodIn wsX12_same wsX1_collect_r11 := goodIn_r _ [265, 266, 267, 268, 269, 270, 271, 272, 273, 274, 275, 276, 277, 278, 279, 280, 281, 282, 283, 284, 285, 286, 287, 288] (by decide +kernel) (by decide +kernel)
set_option maxRecDepth 20000 in
theorem ggX12_same_X1_collect_p12 : GoodIn wsX12_same wsX1_collect_r12 := goodIn_r _ [289, 290, 291, 292, 293, 294, 295, 296, 297, 298, 299, 300, 301, 302, 303, 304, 305, 306, 307, 308, 309, 310, 311, 312] (by decide +kernel) (by decide +kernel)
set_option maxRecDepth 20000 in
theorem ggX12_same_X1_collect_p13 : GoodIn wsX12_same wsX1_collect_r13 := goodIn_r _ [313, 314, 315, 316, 317, 318, 319, 320, 321, 322, 323, 324, 325, 326, 327, 328, 329, 330, 331, 332, 333] (by decide +kernel) (by decide +kernel)
theorem ggX12_same_X1_collect_p14 : GoodIn wsX12_same wsX10 := goodIn_sub iwX12_same_X1 (by decide +kernel)
theorem ggX12_same_X1_collect_p15 : GoodIn wsX12_same wsX70 := goodIn_sub iwX12_same_X7 (by decide +kernel)
theorem ggX12_same_X1_collect_p16 : GoodIn wsX12_same wsX30 := goodIn_sub iwX12_same_X3 (by decide +kernel)
theorem ggX12_same_X1_collect_p17 : GoodIn wsX12_same wsX100 := goodIn_sub iwX12_same_X10 (by decide +kernel)
theorem ggX12_same_X1_collect_p18 : GoodIn wsX12_same wsX50 := goodIn_sub iwX12_same_X5 (by decide +kernel)
theorem ggX12_same_X1_collect_p19 : GoodIn wsX12_same wsX80 := goodIn_sub iwX12_same_X8 (by decide +kernel)
theorem ggX12_same_X1_collect_p20 : GoodIn wsX12_same wsX40 := goodIn_sub iwX12_same_X4 (by decide +kernel)
theorem ggX12_same_X1_collect : GoodIn wsX12_same wsX1_collect := goodIn_cn ggX12_same_X1_collect_p0 (goodIn_app (goodIn_app (goodIn_app (goodIn_app (goodIn_app (goodIn_app (goodIn_app (goodIn_app ggX12_same_X1_collect_p1 (goodIn_app ggX12_same_X1_collect_p2 (goodIn_app ggX12_same_X1_collect_p3 (goodIn_app ggX12_same_X1_collect_p4 (goodIn_app ggX12_same_X1_collect_p5 (goodIn_app ggX12_same_X1_collect_p6 (goodIn_app ggX12_same_X1_collect_p7 (goodIn_app ggX12_same_X1_collect_p8 (goodIn_app ggX12_same_X1_collect_p9 (goodIn_app ggX12_same_X1_collect_p10 (goodIn_app ggX12_same_X1_collect_p11 (goodIn_app ggX12_same_X1_collect_p12 ggX12_same_X1_collect_p13)))))))))))) ggX12_same_X1_collect_p14) ggX12_same_X1_collect_p15) ggX12_same_X1_collect_p16) ggX12_same_X1_collect_p17) ggX12_same_X1_collect_p18) ggX12_same_X1_collect_p19) ggX12_same_X1_collect_p20)
set_option maxRecDepth 20000 in
theorem gX12_same_X1_collect : GoodIn wsX12_same (wsV RX12 194 RX1 yX1_collect wsX1_collect) := goodIn_app (goodIn_of _ (by decide +kernel)) ggX12_same_X1_collect
set_option maxRecDepth 20000 in
theorem ggX12_same_X1_layOut : GoodIn wsX12_same wsX1_layOut := goodIn_r _ [337, 338, 339, 35, 340, 341, 342, 64, 343, 206, 212, 61, 62, 63, 65, 66, 67, 68, 344, 345, 346, 26, 347, 348, 28, 349, 350, 351, 34, 352, 353, 354, 355, 356, 207, 357, 58, 59, 60, 358, 158, 159, 208, 209, 210, 211, 359, 360, 139, 140, 128, 141, 130, 131, 132, 361, 143, 144, 145, 133, 362, 203, 204, 205, 363, 135, 136, 137, 138, 142, 452, 453, 454, 455, 456, 457, 466, 467, 468, 469, 470, 471, 472, 442, 443, 444, 445, 446, 447, 448, 449, 450, 451, 497, 498, 499, 500] (by decide +kernel) (by decide +kernel)
set_option maxRecDepth 20000 in
theorem gX12_same_X1_layOut : GoodIn wsX12_same (wsV RX12 198 RX1 yX1_layOut wsX1_layOut) := goodIn_app (goodIn_of _ (by decide +kernel)) ggX12_same_X1_layOut
set_option maxRecDepth 20000 in
theorem ggX12_same_X12_tellFlat : GoodIn wsX12_same wsX12_tellFlat := goodIn_r _ [367, 368, 9, 369, 370, 371, 372, 373, 374, 375, 376, 377, 378, 379, 380, 381, 382, 383, 384, 385, 386, 341, 342, 64, 343, 206, 212, 387, 388, 389, 390, 391, 392, 393, 394, 395, 67, 357, 58, 59, 60, 396, 397, 398, 399, 400, 401, 402, 403, 404, 359, 405, 406, 407, 408, 429, 430, 431, 432, 433, 434, 435, 436, 437, 438, 439, 440, 441, 466, 467, 468, 469, 470, 471, 472, 501, 502, 503] (by decide +kernel) (by decide +kernel)
set_option maxRecDepth 20000 in
theorem gX12_same_X12_tellFlat : GoodIn wsX12_same (wsV RX12 207 RX12 yX12_tellFlat wsX12_tellFlat) := goodIn_app (goodIn_of _ (by decide +kernel)) ggX12_same_X12_tellFlat
set_option maxRecDepth 20000 in
theorem ggX12_same_X12_tellByCells : GoodIn wsX12_same wsX12_tellByCells := goodIn_r _ [412, 368, 8, 369, 370, 371, 372, 373, 374, 375, 376, 377, 378, 379, 380, 381, 382, 383, 384, 385, 386, 341, 342, 64, 343, 206, 212, 387, 388, 389, 390, 391, 392, 393, 394, 395, 67, 357, 58, 59, 60, 396, 397, 398, 399, 400, 401, 402, 403, 404, 359, 405, 406, 407, 408, 413, 414, 415, 416, 429, 430, 431, 432, 433, 434, 435, 436, 437, 438, 439, 440, 441, 466, 467, 468, 469, 470, 471, 472, 501, 502, 503] (by decide +kernel) (by decide +kernel)
set_option maxRecDepth 20000 in
theorem gX12_same_X12_tellByCells : GoodIn wsX12_same (wsV RX12 210 RX12 yX12_tellByCells wsX12_tellByCells) := goodIn_app (goodIn_of _ (by decide +kernel)) ggX12_same_X12_tellByCells
set_option maxRecDepth 20000 in
theorem ggX12_same_X10_sort : GoodIn wsX12_same wsX10_sort := goodIn_r _ [395, 67, 357, 58, 59, 60, 212, 396, 397, 398, 399, 64, 400, 401, 402, 403, 404, 206, 359, 341, 342, 343, 405, 406, 407, 408, 466, 467, 468, 469, 470, 471, 472] (by decide +kernel) (by decide +kernel)
set_option maxRecDepth 20000 in
theorem gX12_same_X10_sort : GoodIn wsX12_same (wsV RX12 243 RX10 yX10_sort wsX10_sort) := goodIn_app (goodIn_of _ (by decide +kernel)) ggX12_same_X10_sort
set_option maxRecDepth 20000 in
theorem ggX12_same_X10_hasSameAs : GoodIn wsX12_same wsX10_hasSameAs := goodIn_r _ [420, 67, 421, 422, 423, 64, 424, 359, 341, 342, 343, 206, 212, 425, 426, 427, 428, 466, 467, 468, 469, 470, 471, 472] (by decide +kernel) (by decide +kernel)
set_option maxRecDepth 20000 in
theorem gX12_same_X10_hasSameAs : GoodIn wsX12_same (wsV RX12 247 RX10 yX10_hasSameAs wsX10_hasSameAs) := goodIn_app (goodIn_of _ (by decide +kernel)) ggX12_same_X10_hasSameAs

set_option maxHeartbeats 4000000 in
set_option maxRecDepth 100000 in
theorem c_sameA (G : sv_G) (hl0 : G.1.stackTraces = false) (hki : sv_ki G) (h : sv_h) (z b : Nat) (k : Int32) (nc np pl : Nat) (R : Nat → Bool) (hm p3 p4 pa ma sz : Nat → Nat) (ly vo ar : Nat → Int32) (mp : Nat → mvT) (Z9 : sy_ G h b k nc np pl R hm p3 p4 pa ma sz ly vo ar mp) (X Y : Nat → Nat → Int) (fc : Nat → Nat → Nat) (oc : Nat → Nat → Option Nat) (PX : px_ G h np R pa sz X Y fc oc) (CK : ab_Chk G h b) (ru nr : Nat) (frl : Nat → Option Nat) (hrow : ab_Q G h ru 5 20 frl) (hfrl : ∀ j, j < 20 → frl j = some (ru + 1 + j)) (hruv : ru = b + 183 ∨ ru = b + 11) (ri : Nat) (hri : ri < nr) (hnr : nr ≤ 20) (n0 : Int64) (kd : Nat) (hkd : kd < 11) (l1 l2 x3 x4 x5 x6 : Int32) (hrl : h (ru + 1 + ri) = some (.inr (5, [.long n0, .ref (G.2.2.2.2.1 kd), .int l1, .int l2, .int x3, .int x4, .int x5, .int x6]))) (la fo fl : Nat) (hla : b + 204 ≤ la ∧ la + 4 ≤ b + 216) (hfo : b + 204 ≤ fo ∧ fo + 4 ≤ b + 216) (hfl : b + 204 ≤ fl ∧ fl + 4 ≤ b + 216) (hd1 : la + 4 ≤ fo ∨ fo + 4 ≤ la) (hd2 : la + 4 ≤ fl ∨ fl + 4 ≤ la) (hd3 : fo + 4 ≤ fl ∨ fl + 4 ≤ fo) (lX lf : Int32) (hD : h b = some (.inr (10, [.ref (b + 1), .ref (b + 8), .ref (b + 10), .ref (b + 32), .ref (b + 180), .ref ru, .int (nI nr), .int lX, .int lf, .ref la, .ref fo, .ref fl, .ref (b + 216)]))) (Afo : ab_any G h fo) (Afl : ab_any G h fl) (nw : Nat) (wr : Nat → Int64) (WV : ab_wv G h b nw wr) (hC : coB np R sz X Y) (hM : ∀ i, i < pl → mvB mp i) (har : ∀ p, p < np → R p = true → bd (ar p).toInt) (rk : Nat → Nat) (hr : ∀ i, i < pl → rk (p4 i) < rk (p3 i)) (hrk : ∀ c, c < nc → rk c < nc) (cl : Nat) (hcl : cl < nc) (g : Nat → Bool) (hg : ∀ d, d < 16 → (g d = true ↔ gr_R pl p3 p4 cl d)) (Lc : Nat → List (List Int64)) (hLc : (jCol kd l1 l2 x3 x4 x5 x6 np pl R hm p3 p4 ly vo ar mp sz X Y fc oc nc g cl) = ((List.range 16).flatMap Lc)) (hok : ∀ c, c < 16 → ∀ x, x < (Lc c).length → rok ((Lc c).getD x [])) (hcell : ∀ c, c < 16 → ∀ x, x < (Lc c).length → ((Lc c).getD x []).getD 7 0 = (nI c).toInt64) (hL0 : ∀ i, i < pl → gr_R pl p3 p4 cl (p3 i) → oc_n np pl R hm p3 p4 nc (p4 i) = 0 → ∀ f w, lS pl p3 p4 mp Lc f (p4 i) w = []) (Alo : ab_any G h (b + 216)) (hbig : 100 < (oc_n np pl R hm p3 p4 nc cl)) : CX G mX12_same [.ref b, .int (nI ri), .int (nI cl)] h z (fun _ _ _ => False) (fun E h3 z3 => E = "java/lang/UnsupportedOperationException" ∧ ab_any G h3 fo ∧ ab_any G h3 fl ∧ ab_any G h3 (b + 216) ∧ (∃ f, ab_I G h3 (b + 6) 16 f) ∧ (∃ f, ab_I G h3 (b + 7) 16 f) ∧ ab_Chk G h3 b ∧ (∃ f, ab_J G h3 (b + 182) 8 f) ∧ (∀ a, a ≠ b + 6 → a ≠ b + 7 → ¬ (b + 32 ≤ a ∧ a < b + 180) → a ≠ b + 182 → ¬ (fo ≤ a ∧ a < fo + 4) → ¬ (fl ≤ a ∧ a < fl + 4) → ¬ (b + 216 ≤ a ∧ a < b + 220) → h3 a = h a)) := by
  refine CX.of (by decide +kernel) rfl rfl (Nat.le_of_ble_eq_true rfl) ?_
  obtain ⟨⟨c4, c5, ck1⟩, ⟨f34, ck2⟩, ck3, ck4, ck5⟩ := CK.opn
  obtain ⟨y1, _⟩ := id Z9
  obtain ⟨wn, w1, ⟨wf, w2, w3⟩, ⟨w8, w4⟩⟩ := id WV
  have hr0 : 0 ≤ nI ri ∧ nI ri < nI nr := ⟨Int32.not_lt.mp (nI_pos (by omega)), nI_lt hri (by omega)⟩
  have hc0 : 0 ≤ nI cl ∧ nI cl < nI nc := ⟨Int32.not_lt.mp (nI_pos (by have := Z9.2.2.2.2.2.2.2.2.2.1; omega)), nI_lt hcl (by have := Z9.2.2.2.2.2.2.2.2.2.1; omega)⟩
  refine v_aload_n dX12_same_0 rfl 0 rfl ?_
  refine v_iload_n dX12_same_1 rfl 1 rfl ?_
  refine v_callVq (M' := mX12_hasRule) (n := 1) (As := [_]) (ci := 10) (r := (RX12, TX12, 13)) gX12_same_X12_hasRule rfl (by decide +kernel) ⟨(Nat.le_of_ble_eq_true rfl), (Nat.le_of_ble_eq_true rfl)⟩ rfl rfl dX12_same_2 rfl ⟨(Nat.le_of_ble_eq_true rfl), (Nat.le_of_ble_eq_true rfl)⟩ (Nat.le_of_ble_eq_true rfl) (by first | with_reducible assumption) rfl (c_hasRule G h _ b (nI ri) _ _ _ _ _ _ _ _ _ _ _ _ _ hD) (fun v9 h9 y9 hq => v_pq hq ?_)
  refine v_if_eq (tgt := 19) dX12_same_5 (by decide) (fun c_5 => ?_) (fun c_5 => ?_)
  · exact absurd c_5 (by rw [if_pos hr0]; decide)
  · refine v_aload_n dX12_same_8 rfl 0 rfl ?_
    refine v_getf 0 (ci := 10) (C := RX12) (T := TX12) (N := 13) rfl iwX12_same_X12 (Nat.le_of_ble_eq_true rfl) (by decide +kernel) dX12_same_9 (by first | with_reducible assumption) rfl ?_
    refine v_iload_n dX12_same_12 rfl 2 rfl ?_
    refine v_callVq (M' := mX3_hasCell) (n := 1) (As := [_]) (ci := 1) (r := (RX3, TX3, 10)) gX12_same_X3_hasCell rfl (by decide +kernel) ⟨(Nat.le_of_ble_eq_true rfl), (Nat.le_of_ble_eq_true rfl)⟩ rfl rfl dX12_same_13 rfl ⟨(Nat.le_of_ble_eq_true rfl), (Nat.le_of_ble_eq_true rfl)⟩ (Nat.le_of_ble_eq_true rfl) (by first | with_reducible assumption) rfl (c_hasCell G h _ (b + 1) (nI cl) _ _ _ _ _ _ _ _ _ _ y1) (fun v9 h9 y9 hq => v_pq hq ?_)
    refine v_if_ne (tgt := 29) dX12_same_16 (by decide) (fun c_16 => ?_) (fun c_16 => ?_)
    · refine v_aload_n dX12_same_29 rfl 0 rfl ?_
      refine v_getf 3 (ci := 10) (C := RX12) (T := TX12) (N := 13) rfl iwX12_same_X12 (Nat.le_of_ble_eq_true rfl) (by decide +kernel) dX12_same_30 (by first | with_reducible assumption) rfl ?_
      refine v_aload_n dX12_same_33 rfl 0 rfl ?_
      refine v_getf 5 (ci := 10) (C := RX12) (T := TX12) (N := 13) rfl iwX12_same_X12 (Nat.le_of_ble_eq_true rfl) (by decide +kernel) dX12_same_34 (by first | with_reducible assumption) rfl ?_
      refine v_iload_n dX12_same_37 rfl 1 rfl ?_
      refine v_aaldS (t := 5) (q := ru + 1 + ri) dX12_same_38 (fun _ => rfl) (by first | with_reducible assumption) (vp_in_nI (by omega) (by omega)) (by rw [nI_clamp (by omega)]; exact hfrl ri (by omega)) ?_
      refine v_iload_n dX12_same_39 rfl 2 rfl ?_
      refine v_aload_n dX12_same_40 rfl 0 rfl ?_
      refine v_getf 10 (ci := 10) (C := RX12) (T := TX12) (N := 13) rfl iwX12_same_X12 (Nat.le_of_ble_eq_true rfl) (by decide +kernel) dX12_same_41 (by first | with_reducible assumption) rfl ?_
      refine v_callVq (M' := mX1_collect) (n := 3) (As := [_, _, _]) (ci := 0) (r := (RX1, TX1, 6)) gX12_same_X1_collect rfl (by decide +kernel) ⟨(Nat.le_of_ble_eq_true rfl), (Nat.le_of_ble_eq_true rfl)⟩ rfl rfl dX12_same_44 rfl ⟨(Nat.le_of_ble_eq_true rfl), (Nat.le_of_ble_eq_true rfl)⟩ (Nat.le_of_ble_eq_true rfl) (by first | with_reducible assumption) rfl (c_collect G hki h _ b k nc np pl R hm p3 p4 pa ma sz ly vo ar mp Z9 X Y fc oc PX ck3 (ru + 1 + ri) (by omega) n0 kd hkd l1 l2 x3 x4 x5 x6 hrl (by omega) fo (by omega) (by omega) c4 c5 ck1 Afo hC hM har rk hr hrk cl hcl g hg) (fun v h1 z1 hq9 => ?_)
      obtain ⟨rfl, hq9⟩ := hq9
      rcases hq9 with ⟨q1, rfl, Y1, F1⟩ | ⟨q1, _⟩
      rotate_left
      · exact absurd q1 (by omega)
      obtain ⟨_, _, _, _, _, ⟨f6, A6⟩, ⟨f7, A7⟩, _⟩ := id Y1
      refine v_istore_n (L' := [(3, _), (0, _), (1, _), (2, _)]) dX12_same_47 rfl (Nat.le_of_ble_eq_true rfl) rfl ?_
      refine v_iload_n dX12_same_48 rfl 0 rfl ?_
      refine v_if_eq (tgt := 71) dX12_same_49 (by decide) (fun c_49 => ?_) (fun c_49 => ?_)
      · exact v_throw (ik := 202) (is := 204) (ic := 206) (cls := "java/lang/UnsupportedOperationException") (text := "too many occurrences or violations") (names := ["java/lang/RuntimeException", "java/lang/Exception"]) hl0 rfl (by decide +kernel) (by decide +kernel) (by decide +kernel) (by decide +kernel) (by decide +kernel) (by decide +kernel) (by decide +kernel) sv_bwU (by decide +kernel) dX12_same_71 dX12_same_74 dX12_same_75 dX12_same_77 dX12_same_80 rfl (Nat.le_of_ble_eq_true rfl) (Nat.le_of_ble_eq_true rfl) (Nat.le_of_ble_eq_true rfl) (Nat.le_of_ble_eq_true rfl) (fun z9 hz9 => ⟨rfl, Afo.kept (fun a p1 p2 => F1 a (by omega) (by omega)), Afl.kept (fun a p1 p2 => F1 a (by omega) (by omega)), Alo.kept (fun a p1 p2 => F1 a (by omega) (by omega)), ⟨f6, A6⟩, ⟨f7, A7⟩, CK.kept (fun a p1 p2 => F1 a (by omega) (by omega)), ⟨w8, (F1 _ (by omega) (by omega)).trans w4⟩, fun a p2 p3_ p4_ p5 p6 p7 p8 => F1 a p2 p3_⟩)
      · exact absurd rfl c_49
    · exact absurd c_16 (by rw [if_pos hc0]; decide)

set_option maxHeartbeats 4000000 in
set_option maxRecDepth 100000 in
theorem c_sameB (G : sv_G) (hl0 : G.1.stackTraces = false) (hki : sv_ki G) (h : sv_h) (z b : Nat) (k : Int32) (nc np pl : Nat) (R : Nat → Bool) (hm p3 p4 pa ma sz : Nat → Nat) (ly vo ar : Nat → Int32) (mp : Nat → mvT) (Z9 : sy_ G h b k nc np pl R hm p3 p4 pa ma sz ly vo ar mp) (X Y : Nat → Nat → Int) (fc : Nat → Nat → Nat) (oc : Nat → Nat → Option Nat) (PX : px_ G h np R pa sz X Y fc oc) (CK : ab_Chk G h b) (ru nr : Nat) (frl : Nat → Option Nat) (hrow : ab_Q G h ru 5 20 frl) (hfrl : ∀ j, j < 20 → frl j = some (ru + 1 + j)) (hruv : ru = b + 183 ∨ ru = b + 11) (ri : Nat) (hri : ri < nr) (hnr : nr ≤ 20) (n0 : Int64) (kd : Nat) (hkd : kd < 11) (l1 l2 x3 x4 x5 x6 : Int32) (hrl : h (ru + 1 + ri) = some (.inr (5, [.long n0, .ref (G.2.2.2.2.1 kd), .int l1, .int l2, .int x3, .int x4, .int x5, .int x6]))) (la fo fl : Nat) (hla : b + 204 ≤ la ∧ la + 4 ≤ b + 216) (hfo : b + 204 ≤ fo ∧ fo + 4 ≤ b + 216) (hfl : b + 204 ≤ fl ∧ fl + 4 ≤ b + 216) (hd1 : la + 4 ≤ fo ∨ fo + 4 ≤ la) (hd2 : la + 4 ≤ fl ∨ fl + 4 ≤ la) (hd3 : fo + 4 ≤ fl ∨ fl + 4 ≤ fo) (lX lf : Int32) (hD : h b = some (.inr (10, [.ref (b + 1), .ref (b + 8), .ref (b + 10), .ref (b + 32), .ref (b + 180), .ref ru, .int (nI nr), .int lX, .int lf, .ref la, .ref fo, .ref fl, .ref (b + 216)]))) (Afo : ab_any G h fo) (Afl : ab_any G h fl) (nw : Nat) (wr : Nat → Int64) (WV : ab_wv G h b nw wr) (hC : coB np R sz X Y) (hM : ∀ i, i < pl → mvB mp i) (har : ∀ p, p < np → R p = true → bd (ar p).toInt) (rk : Nat → Nat) (hr : ∀ i, i < pl → rk (p4 i) < rk (p3 i)) (hrk : ∀ c, c < nc → rk c < nc) (cl : Nat) (hcl : cl < nc) (g : Nat → Bool) (hg : ∀ d, d < 16 → (g d = true ↔ gr_R pl p3 p4 cl d)) (Lc : Nat → List (List Int64)) (hLc : (jCol kd l1 l2 x3 x4 x5 x6 np pl R hm p3 p4 ly vo ar mp sz X Y fc oc nc g cl) = ((List.range 16).flatMap Lc)) (hok : ∀ c, c < 16 → ∀ x, x < (Lc c).length → rok ((Lc c).getD x [])) (hcell : ∀ c, c < 16 → ∀ x, x < (Lc c).length → ((Lc c).getD x []).getD 7 0 = (nI c).toInt64) (hL0 : ∀ i, i < pl → gr_R pl p3 p4 cl (p3 i) → oc_n np pl R hm p3 p4 nc (p4 i) = 0 → ∀ f w, lS pl p3 p4 mp Lc f (p4 i) w = []) (Alo : ab_any G h (b + 216)) (hN : (oc_n np pl R hm p3 p4 nc cl) ≤ 100) (hbig : 1500 < (jCol kd l1 l2 x3 x4 x5 x6 np pl R hm p3 p4 ly vo ar mp sz X Y fc oc nc g cl).length) : CX G mX12_same [.ref b, .int (nI ri), .int (nI cl)] h z (fun _ _ _ => False) (fun E h3 z3 => E = "java/lang/UnsupportedOperationException" ∧ ab_any G h3 fo ∧ ab_any G h3 fl ∧ ab_any G h3 (b + 216) ∧ (∃ f, ab_I G h3 (b + 6) 16 f) ∧ (∃ f, ab_I G h3 (b + 7) 16 f) ∧ ab_Chk G h3 b ∧ (∃ f, ab_J G h3 (b + 182) 8 f) ∧ (∀ a, a ≠ b + 6 → a ≠ b + 7 → ¬ (b + 32 ≤ a ∧ a < b + 180) → a ≠ b + 182 → ¬ (fo ≤ a ∧ a < fo + 4) → ¬ (fl ≤ a ∧ a < fl + 4) → ¬ (b + 216 ≤ a ∧ a < b + 220) → h3 a = h a)) := by
  refine CX.of (by decide +kernel) rfl rfl (Nat.le_of_ble_eq_true rfl) ?_
  obtain ⟨⟨c4, c5, ck1⟩, ⟨f34, ck2⟩, ck3, ck4, ck5⟩ := CK.opn
  obtain ⟨y1, _⟩ := id Z9
  obtain ⟨wn, w1, ⟨wf, w2, w3⟩, ⟨w8, w4⟩⟩ := id WV
  have hr0 : 0 ≤ nI ri ∧ nI ri < nI nr := ⟨Int32.not_lt.mp (nI_pos (by omega)), nI_lt hri (by omega)⟩
  have hc0 : 0 ≤ nI cl ∧ nI cl < nI nc := ⟨Int32.not_lt.mp (nI_pos (by have := Z9.2.2.2.2.2.2.2.2.2.1; omega)), nI_lt hcl (by have := Z9.2.2.2.2.2.2.2.2.2.1; omega)⟩
  refine v_aload_n dX12_same_0 rfl 0 rfl ?_
  refine v_iload_n dX12_same_1 rfl 1 rfl ?_
  refine v_callVq (M' := mX12_hasRule) (n := 1) (As := [_]) (ci := 10) (r := (RX12, TX12, 13)) gX12_same_X12_hasRule rfl (by decide +kernel) ⟨(Nat.le_of_ble_eq_true rfl), (Nat.le_of_ble_eq_true rfl)⟩ rfl rfl dX12_same_2 rfl ⟨(Nat.le_of_ble_eq_true rfl), (Nat.le_of_ble_eq_true rfl)⟩ (Nat.le_of_ble_eq_true rfl) (by first | with_reducible assumption) rfl (c_hasRule G h _ b (nI ri) _ _ _ _ _ _ _ _ _ _ _ _ _ hD) (fun v9 h9 y9 hq => v_pq hq ?_)
  refine v_if_eq (tgt := 19) dX12_same_5 (by decide) (fun c_5 => ?_) (fun c_5 => ?_)
  · exact absurd c_5 (by rw [if_pos hr0]; decide)
  · refine v_aload_n dX12_same_8 rfl 0 rfl ?_
    refine v_getf 0 (ci := 10) (C := RX12) (T := TX12) (N := 13) rfl iwX12_same_X12 (Nat.le_of_ble_eq_true rfl) (by decide +kernel) dX12_same_9 (by first | with_reducible assumption) rfl ?_
    refine v_iload_n dX12_same_12 rfl 2 rfl ?_
    refine v_callVq (M' := mX3_hasCell) (n := 1) (As := [_]) (ci := 1) (r := (RX3, TX3, 10)) gX12_same_X3_hasCell rfl (by decide +kernel) ⟨(Nat.le_of_ble_eq_true rfl), (Nat.le_of_ble_eq_true rfl)⟩ rfl rfl dX12_same_13 rfl ⟨(Nat.le_of_ble_eq_true rfl), (Nat.le_of_ble_eq_true rfl)⟩ (Nat.le_of_ble_eq_true rfl) (by first | with_reducible assumption) rfl (c_hasCell G h _ (b + 1) (nI cl) _ _ _ _ _ _ _ _ _ _ y1) (fun v9 h9 y9 hq => v_pq hq ?_)
    refine v_if_ne (tgt := 29) dX12_same_16 (by decide) (fun c_16 => ?_) (fun c_16 => ?_)
    · refine v_aload_n dX12_same_29 rfl 0 rfl ?_
      refine v_getf 3 (ci := 10) (C := RX12) (T := TX12) (N := 13) rfl iwX12_same_X12 (Nat.le_of_ble_eq_true rfl) (by decide +kernel) dX12_same_30 (by first | with_reducible assumption) rfl ?_
      refine v_aload_n dX12_same_33 rfl 0 rfl ?_
      refine v_getf 5 (ci := 10) (C := RX12) (T := TX12) (N := 13) rfl iwX12_same_X12 (Nat.le_of_ble_eq_true rfl) (by decide +kernel) dX12_same_34 (by first | with_reducible assumption) rfl ?_
      refine v_iload_n dX12_same_37 rfl 1 rfl ?_
      refine v_aaldS (t := 5) (q := ru + 1 + ri) dX12_same_38 (fun _ => rfl) (by first | with_reducible assumption) (vp_in_nI (by omega) (by omega)) (by rw [nI_clamp (by omega)]; exact hfrl ri (by omega)) ?_
      refine v_iload_n dX12_same_39 rfl 2 rfl ?_
      refine v_aload_n dX12_same_40 rfl 0 rfl ?_
      refine v_getf 10 (ci := 10) (C := RX12) (T := TX12) (N := 13) rfl iwX12_same_X12 (Nat.le_of_ble_eq_true rfl) (by decide +kernel) dX12_same_41 (by first | with_reducible assumption) rfl ?_
      refine v_callVq (M' := mX1_collect) (n := 3) (As := [_, _, _]) (ci := 0) (r := (RX1, TX1, 6)) gX12_same_X1_collect rfl (by decide +kernel) ⟨(Nat.le_of_ble_eq_true rfl), (Nat.le_of_ble_eq_true rfl)⟩ rfl rfl dX12_same_44 rfl ⟨(Nat.le_of_ble_eq_true rfl), (Nat.le_of_ble_eq_true rfl)⟩ (Nat.le_of_ble_eq_true rfl) (by first | with_reducible assumption) rfl (c_collect G hki h _ b k nc np pl R hm p3 p4 pa ma sz ly vo ar mp Z9 X Y fc oc PX ck3 (ru + 1 + ri) (by omega) n0 kd hkd l1 l2 x3 x4 x5 x6 hrl (by omega) fo (by omega) (by omega) c4 c5 ck1 Afo hC hM har rk hr hrk cl hcl g hg) (fun v h1 z1 hq9 => ?_)
      obtain ⟨rfl, hq9⟩ := hq9
      rcases hq9 with ⟨q1, _⟩ | ⟨q1, hv, ⟨hm1, E1⟩, Z1, ⟨f7, A7⟩, P1, N1, C1, F1⟩
      · exact absurd q1 (by omega)
      rw [if_neg (Nat.not_le.mpr hbig)] at hv
      subst hv
      obtain ⟨_, _, _, _, _, ⟨f6, A6, _⟩, _⟩ := id Z1
      have D1 := (F1 b (by omega) (by omega) (by omega) (by omega) (by omega)).trans hD
      have M1 : ab_mvs G h1 (b + 33) 16 (b + 164) := mvs_k ck4 (F1 _ (by omega) (by omega) (by omega) (by omega) (by omega)) (fun j hj => F1 _ (by omega) (by omega) (by omega) (by omega) (by omega))
      have V1 : ab_mv0 G h1 (b + 164) := (F1 _ (by omega) (by omega) (by omega) (by omega) (by omega)).trans ck5
      have B1 : ab_I G h1 (b + 34) 17 f34 := (F1 _ (by omega) (by omega) (by omega) (by omega) (by omega)).trans ck2
      have L1_ : ab_any G h1 fl := Afl.kept (fun a p1 p2 => F1 a (by omega) (by omega) (by omega) (by omega) (by omega))
      have W18 : ab_J G h1 (b + 182) 8 w8 := (F1 _ (by omega) (by omega) (by omega) (by omega) (by omega)).trans w4
      have W11 := (F1 (b + 180) (by omega) (by omega) (by omega) (by omega) (by omega)).trans w1
      have W12 : ab_J G h1 (b + 181) 320 wf := (F1 (b + 181) (by omega) (by omega) (by omega) (by omega) (by omega)).trans w2
      obtain ⟨fso, hso⟩ := E1.obj
      have Lo1 : ab_any G h1 (b + 216) := Alo.kept (fun a p1 p2 => F1 a (by omega) (by omega) (by omega) (by omega) (by omega))
      refine v_istore_n (L' := [(3, _), (0, _), (1, _), (2, _)]) dX12_same_47 rfl (Nat.le_of_ble_eq_true rfl) rfl ?_
      refine v_iload_n dX12_same_48 rfl 0 rfl ?_
      refine v_if_eq (tgt := 71) dX12_same_49 (by decide) (fun c_49 => ?_) (fun c_49 => ?_)
      · exact v_throw (ik := 202) (is := 204) (ic := 206) (cls := "java/lang/UnsupportedOperationException") (text := "too many occurrences or violations") (names := ["java/lang/RuntimeException", "java/lang/Exception"]) hl0 rfl (by decide +kernel) (by decide +kernel) (by decide +kernel) (by decide +kernel) (by decide +kernel) (by decide +kernel) (by decide +kernel) sv_bwU (by decide +kernel) dX12_same_71 dX12_same_74 dX12_same_75 dX12_same_77 dX12_same_80 rfl (Nat.le_of_ble_eq_true rfl) (Nat.le_of_ble_eq_true rfl) (Nat.le_of_ble_eq_true rfl) (Nat.le_of_ble_eq_true rfl) (fun z9 hz9 => ⟨rfl, E1.any, L1_, Lo1, ⟨f6, A6⟩, ⟨f7, A7⟩, (ab_Chk.mk9 (Or.inr ⟨_, rfl⟩) (Or.inr ⟨_, rfl⟩) C1 ⟨f34, B1⟩ N1 M1 V1), ⟨w8, W18⟩, fun a p2 p3_ p4_ p5 p6 p7 p8 => F1 a p2 p3_ (by omega) (by omega) p6⟩)
      · exact absurd rfl c_49
    · exact absurd c_16 (by rw [if_pos hc0]; decide)

set_option maxHeartbeats 4000000 in
set_option maxRecDepth 100000 in
theorem c_sameC (G : sv_G) (hl0 : G.1.stackTraces = false) (hki : sv_ki G) (h : sv_h) (z b : Nat) (k : Int32) (nc np pl : Nat) (R : Nat → Bool) (hm p3 p4 pa ma sz : Nat → Nat) (ly vo ar : Nat → Int32) (mp : Nat → mvT) (Z9 : sy_ G h b k nc np pl R hm p3 p4 pa ma sz ly vo ar mp) (X Y : Nat → Nat → Int) (fc : Nat → Nat → Nat) (oc : Nat → Nat → Option Nat) (PX : px_ G h np R pa sz X Y fc oc) (CK : ab_Chk G h b) (ru nr : Nat) (frl : Nat → Option Nat) (hrow : ab_Q G h ru 5 20 frl) (hfrl : ∀ j, j < 20 → frl j = some (ru + 1 + j)) (hruv : ru = b + 183 ∨ ru = b + 11) (ri : Nat) (hri : ri < nr) (hnr : nr ≤ 20) (n0 : Int64) (kd : Nat) (hkd : kd < 11) (l1 l2 x3 x4 x5 x6 : Int32) (hrl : h (ru + 1 + ri) = some (.inr (5, [.long n0, .ref (G.2.2.2.2.1 kd), .int l1, .int l2, .int x3, .int x4, .int x5, .int x6]))) (la fo fl : Nat) (hla : b + 204 ≤ la ∧ la + 4 ≤ b + 216) (hfo : b + 204 ≤ fo ∧ fo + 4 ≤ b + 216) (hfl : b + 204 ≤ fl ∧ fl + 4 ≤ b + 216) (hd1 : la + 4 ≤ fo ∨ fo + 4 ≤ la) (hd2 : la + 4 ≤ fl ∨ fl + 4 ≤ la) (hd3 : fo + 4 ≤ fl ∨ fl + 4 ≤ fo) (lX lf : Int32) (hD : h b = some (.inr (10, [.ref (b + 1), .ref (b + 8), .ref (b + 10), .ref (b + 32), .ref (b + 180), .ref ru, .int (nI nr), .int lX, .int lf, .ref la, .ref fo, .ref fl, .ref (b + 216)]))) (Afo : ab_any G h fo) (Afl : ab_any G h fl) (nw : Nat) (wr : Nat → Int64) (WV : ab_wv G h b nw wr) (hC : coB np R sz X Y) (hM : ∀ i, i < pl → mvB mp i) (har : ∀ p, p < np → R p = true → bd (ar p).toInt) (rk : Nat → Nat) (hr : ∀ i, i < pl → rk (p4 i) < rk (p3 i)) (hrk : ∀ c, c < nc → rk c < nc) (cl : Nat) (hcl : cl < nc) (g : Nat → Bool) (hg : ∀ d, d < 16 → (g d = true ↔ gr_R pl p3 p4 cl d)) (Lc : Nat → List (List Int64)) (hLc : (jCol kd l1 l2 x3 x4 x5 x6 np pl R hm p3 p4 ly vo ar mp sz X Y fc oc nc g cl) = ((List.range 16).flatMap Lc)) (hok : ∀ c, c < 16 → ∀ x, x < (Lc c).length → rok ((Lc c).getD x [])) (hcell : ∀ c, c < 16 → ∀ x, x < (Lc c).length → ((Lc c).getD x []).getD 7 0 = (nI c).toInt64) (hL0 : ∀ i, i < pl → gr_R pl p3 p4 cl (p3 i) → oc_n np pl R hm p3 p4 nc (p4 i) = 0 → ∀ f w, lS pl p3 p4 mp Lc f (p4 i) w = []) (Alo : ab_any G h (b + 216)) (hN : (oc_n np pl R hm p3 p4 nc cl) ≤ 100) (hEB : (jCol kd l1 l2 x3 x4 x5 x6 np pl R hm p3 p4 ly vo ar mp sz X Y fc oc nc g cl).length ≤ 1500) (hbig : 1500 < (lS pl p3 p4 mp Lc 16 cl []).length) : CX G mX12_same [.ref b, .int (nI ri), .int (nI cl)] h z (fun _ _ _ => False) (fun E h3 z3 => E = "java/lang/UnsupportedOperationException" ∧ ab_any G h3 fo ∧ ab_any G h3 fl ∧ ab_any G h3 (b + 216) ∧ (∃ f, ab_I G h3 (b + 6) 16 f) ∧ (∃ f, ab_I G h3 (b + 7) 16 f) ∧ ab_Chk G h3 b ∧ (∃ f, ab_J G h3 (b + 182) 8 f) ∧ (∀ a, a ≠ b + 6 → a ≠ b + 7 → ¬ (b + 32 ≤ a ∧ a < b + 180) → a ≠ b + 182 → ¬ (fo ≤ a ∧ a < fo + 4) → ¬ (fl ≤ a ∧ a < fl + 4) → ¬ (b + 216 ≤ a ∧ a < b + 220) → h3 a = h a)) := by
  refine CX.of (by decide +kernel) rfl rfl (Nat.le_of_ble_eq_true rfl) ?_
  obtain ⟨⟨c4, c5, ck1⟩, ⟨f34, ck2⟩, ck3, ck4, ck5⟩ := CK.opn
  obtain ⟨y1, _⟩ := id Z9
  obtain ⟨wn, w1, ⟨wf, w2, w3⟩, ⟨w8, w4⟩⟩ := id WV
  have hr0 : 0 ≤ nI ri ∧ nI ri < nI nr := ⟨Int32.not_lt.mp (nI_pos (by omega)), nI_lt hri (by omega)⟩
  have hc0 : 0 ≤ nI cl ∧ nI cl < nI nc := ⟨Int32.not_lt.mp (nI_pos (by have := Z9.2.2.2.2.2.2.2.2.2.1; omega)), nI_lt hcl (by have := Z9.2.2.2.2.2.2.2.2.2.1; omega)⟩
  refine v_aload_n dX12_same_0 rfl 0 rfl ?_
  refine v_iload_n dX12_same_1 rfl 1 rfl ?_
  refine v_callVq (M' := mX12_hasRule) (n := 1) (As := [_]) (ci := 10) (r := (RX12, TX12, 13)) gX12_same_X12_hasRule rfl (by decide +kernel) ⟨(Nat.le_of_ble_eq_true rfl), (Nat.le_of_ble_eq_true rfl)⟩ rfl rfl dX12_same_2 rfl ⟨(Nat.le_of_ble_eq_true rfl), (Nat.le_of_ble_eq_true rfl)⟩ (Nat.le_of_ble_eq_true rfl) (by first | with_reducible assumption) rfl (c_hasRule G h _ b (nI ri) _ _ _ _ _ _ _ _ _ _ _ _ _ hD) (fun v9 h9 y9 hq => v_pq hq ?_)
  refine v_if_eq (tgt := 19) dX12_same_5 (by decide) (fun c_5 => ?_) (fun c_5 => ?_)
  · exact absurd c_5 (by rw [if_pos hr0]; decide)
  · refine v_aload_n dX12_same_8 rfl 0 rfl ?_
    refine v_getf 0 (ci := 10) (C := RX12) (T := TX12) (N := 13) rfl iwX12_same_X12 (Nat.le_of_ble_eq_true rfl) (by decide +kernel) dX12_same_9 (by first | with_reducible assumption) rfl ?_
    refine v_iload_n dX12_same_12 rfl 2 rfl ?_
    refine v_callVq (M' := mX3_hasCell) (n := 1) (As := [_]) (ci := 1) (r := (RX3, TX3, 10)) gX12_same_X3_hasCell rfl (by decide +kernel) ⟨(Nat.le_of_ble_eq_true rfl), (Nat.le_of_ble_eq_true rfl)⟩ rfl rfl dX12_same_13 rfl ⟨(Nat.le_of_ble_eq_true rfl), (Nat.le_of_ble_eq_true rfl)⟩ (Nat.le_of_ble_eq_true rfl) (by first | with_reducible assumption) rfl (c_hasCell G h _ (b + 1) (nI cl) _ _ _ _ _ _ _ _ _ _ y1) (fun v9 h9 y9 hq => v_pq hq ?_)
    refine v_if_ne (tgt := 29) dX12_same_16 (by decide) (fun c_16 => ?_) (fun c_16 => ?_)
    · refine v_aload_n dX12_same_29 rfl 0 rfl ?_
      refine v_getf 3 (ci := 10) (C := RX12) (T := TX12) (N := 13) rfl iwX12_same_X12 (Nat.le_of_ble_eq_true rfl) (by decide +kernel) dX12_same_30 (by first | with_reducible assumption) rfl ?_
      refine v_aload_n dX12_same_33 rfl 0 rfl ?_
      refine v_getf 5 (ci := 10) (C := RX12) (T := TX12) (N := 13) rfl iwX12_same_X12 (Nat.le_of_ble_eq_true rfl) (by decide +kernel) dX12_same_34 (by first | with_reducible assumption) rfl ?_
      refine v_iload_n dX12_same_37 rfl 1 rfl ?_
      refine v_aaldS (t := 5) (q := ru + 1 + ri) dX12_same_38 (fun _ => rfl) (by first | with_reducible assumption) (vp_in_nI (by omega) (by omega)) (by rw [nI_clamp (by omega)]; exact hfrl ri (by omega)) ?_
      refine v_iload_n dX12_same_39 rfl 2 rfl ?_
      refine v_aload_n dX12_same_40 rfl 0 rfl ?_
      refine v_getf 10 (ci := 10) (C := RX12) (T := TX12) (N := 13) rfl iwX12_same_X12 (Nat.le_of_ble_eq_true rfl) (by decide +kernel) dX12_same_41 (by first | with_reducible assumption) rfl ?_
      refine v_callVq (M' := mX1_collect) (n := 3) (As := [_, _, _]) (ci := 0) (r := (RX1, TX1, 6)) gX12_same_X1_collect rfl (by decide +kernel) ⟨(Nat.le_of_ble_eq_true rfl), (Nat.le_of_ble_eq_true rfl)⟩ rfl rfl dX12_same_44 rfl ⟨(Nat.le_of_ble_eq_true rfl), (Nat.le_of_ble_eq_true rfl)⟩ (Nat.le_of_ble_eq_true rfl) (by first | with_reducible assumption) rfl (c_collect G hki h _ b k nc np pl R hm p3 p4 pa ma sz ly vo ar mp Z9 X Y fc oc PX ck3 (ru + 1 + ri) (by omega) n0 kd hkd l1 l2 x3 x4 x5 x6 hrl (by omega) fo (by omega) (by omega) c4 c5 ck1 Afo hC hM har rk hr hrk cl hcl g hg) (fun v h1 z1 hq9 => ?_)
      obtain ⟨rfl, hq9⟩ := hq9
      rcases hq9 with ⟨q1, _⟩ | ⟨q1, hv, ⟨hm1, E1⟩, Z1, ⟨f7, A7⟩, P1, N1, C1, F1⟩
      · exact absurd q1 (by omega)
      rw [if_pos hEB] at hv
      subst hv
      obtain ⟨_, _, _, _, _, ⟨f6, A6, _⟩, _⟩ := id Z1
      have D1 := (F1 b (by omega) (by omega) (by omega) (by omega) (by omega)).trans hD
      have M1 : ab_mvs G h1 (b + 33) 16 (b + 164) := mvs_k ck4 (F1 _ (by omega) (by omega) (by omega) (by omega) (by omega)) (fun j hj => F1 _ (by omega) (by omega) (by omega) (by omega) (by omega))
      have V1 : ab_mv0 G h1 (b + 164) := (F1 _ (by omega) (by omega) (by omega) (by omega) (by omega)).trans ck5
      have B1 : ab_I G h1 (b + 34) 17 f34 := (F1 _ (by omega) (by omega) (by omega) (by omega) (by omega)).trans ck2
      have L1_ : ab_any G h1 fl := Afl.kept (fun a p1 p2 => F1 a (by omega) (by omega) (by omega) (by omega) (by omega))
      have W18 : ab_J G h1 (b + 182) 8 w8 := (F1 _ (by omega) (by omega) (by omega) (by omega) (by omega)).trans w4
      have W11 := (F1 (b + 180) (by omega) (by omega) (by omega) (by omega) (by omega)).trans w1
      have W12 : ab_J G h1 (b + 181) 320 wf := (F1 (b + 181) (by omega) (by omega) (by omega) (by omega) (by omega)).trans w2
      obtain ⟨fso, hso⟩ := E1.obj
      have Lo1 : ab_any G h1 (b + 216) := Alo.kept (fun a p1 p2 => F1 a (by omega) (by omega) (by omega) (by omega) (by omega))
      refine v_istore_n (L' := [(3, _), (0, _), (1, _), (2, _)]) dX12_same_47 rfl (Nat.le_of_ble_eq_true rfl) rfl ?_
      refine v_iload_n dX12_same_48 rfl 0 rfl ?_
      refine v_if_eq (tgt := 71) dX12_same_49 (by decide) (fun c_49 => ?_) (fun c_49 => ?_)
      · exact absurd c_49 (by decide)
      · refine v_aload_n dX12_same_52 rfl 1 rfl ?_
        refine v_getf 3 (ci := 10) (C := RX12) (T := TX12) (N := 13) rfl iwX12_same_X12 (Nat.le_of_ble_eq_true rfl) (by decide +kernel) dX12_same_53 (by first | with_reducible assumption) rfl ?_
        refine v_aload_n dX12_same_56 rfl 1 rfl ?_
        refine v_getf 10 (ci := 10) (C := RX12) (T := TX12) (N := 13) rfl iwX12_same_X12 (Nat.le_of_ble_eq_true rfl) (by decide +kernel) dX12_same_57 (by first | with_reducible assumption) rfl ?_
        refine v_iload_n dX12_same_60 rfl 3 rfl ?_
        refine v_aload_n dX12_same_61 rfl 1 rfl ?_
        refine v_getf 11 (ci := 10) (C := RX12) (T := TX12) (N := 13) rfl iwX12_same_X12 (Nat.le_of_ble_eq_true rfl) (by decide +kernel) dX12_same_62 (by first | with_reducible assumption) rfl ?_
        refine v_callVq (M' := mX1_layOut) (n := 3) (As := [_, _, _]) (ci := 0) (r := (RX1, TX1, 6)) gX12_same_X1_layOut rfl (by decide +kernel) ⟨(Nat.le_of_ble_eq_true rfl), (Nat.le_of_ble_eq_true rfl)⟩ rfl rfl dX12_same_65 rfl ⟨(Nat.le_of_ble_eq_true rfl), (Nat.le_of_ble_eq_true rfl)⟩ (Nat.le_of_ble_eq_true rfl) (by first | with_reducible assumption) rfl (c_layOut G h1 _ b k nc np pl R hm p3 p4 pa ma sz ly vo ar mp (fun c => oc_n np pl R hm p3 p4 nc c) Z1 _ _ C1 M1 V1 f34 B1 Lc fo fl hd3 (by omega) (by omega) (by have := E1.tO hEB; rw [hLc] at this; exact this) L1_ hok hcell hM cl hcl hL0) (fun v h2 z2 hq9 => ?_)
        obtain ⟨rfl, hv2, ⟨hm2, E2⟩, M2, V2, ⟨g34, B2⟩, F2⟩ := hq9
        rw [if_neg (Nat.not_le.mpr hbig)] at hv2
        subst hv2
        have D2 := (F2 b (by omega) (by omega) (by omega)).trans D1
        have C2 := (F2 (b + 32) (by omega) (by omega) (by omega)).trans C1
        have N2 : sn_ G b h2 := N1.frame (fun a p1 p2 => F2 a (by omega) (by omega) (by omega))
        have A62 : ab_I G h2 (b + 6) 16 f6 := (F2 _ (by omega) (by omega) (by omega)).trans A6
        have A72 : ab_I G h2 (b + 7) 16 f7 := (F2 _ (by omega) (by omega) (by omega)).trans A7
        have W28 : ab_J G h2 (b + 182) 8 w8 := (F2 _ (by omega) (by omega) (by omega)).trans W18
        have W21 := (F2 (b + 180) (by omega) (by omega) (by omega)).trans W11
        have W22 : ab_J G h2 (b + 181) 320 wf := (F2 _ (by omega) (by omega) (by omega)).trans W12
        have O2_ : ab_any G h2 fo := E1.any.kept (fun a p1 p2 => F2 a (by omega) (by omega) (by omega))
        have Lo2 : ab_any G h2 (b + 216) := Lo1.kept (fun a p1 p2 => F2 a (by omega) (by omega) (by omega))
        refine v_if_ne (tgt := 81) dX12_same_68 (by decide) (fun c_68 => ?_) (fun c_68 => ?_)
        · exact absurd rfl c_68
        · exact v_throw (ik := 202) (is := 204) (ic := 206) (cls := "java/lang/UnsupportedOperationException") (text := "too many occurrences or violations") (names := ["java/lang/RuntimeException", "java/lang/Exception"]) hl0 rfl (by decide +kernel) (by decide +kernel) (by decide +kernel) (by decide +kernel) (by decide +kernel) (by decide +kernel) (by decide +kernel) sv_bwU (by decide +kernel) dX12_same_71 dX12_same_74 dX12_same_75 dX12_same_77 dX12_same_80 rfl (Nat.le_of_ble_eq_true rfl) (Nat.le_of_ble_eq_true rfl) (Nat.le_of_ble_eq_true rfl) (Nat.le_of_ble_eq_true rfl) (fun z9 hz9 => ⟨rfl, O2_, E2.any, Lo2, ⟨f6, A62⟩, ⟨f7, A72⟩, (ab_Chk.mk9 (Or.inr ⟨_, rfl⟩) (Or.inr ⟨_, rfl⟩) C2 ⟨g34, B2⟩ N2 M2 V2), ⟨w8, W28⟩, fun a p2 p3_ p4_ p5 p6 p7 p8 => (F2 a (by omega) (by omega) p7).trans (F1 a p2 p3_ (by omega) (by omega) p6)⟩)
    · exact absurd c_16 (by rw [if_pos hc0]; decide)

theorem mem_getD {α : Type} {l : List α} {r : α} (d : α) (h : r ∈ l) : ∃ i, i < l.length ∧ l.getD i d = r := by
  obtain ⟨i, hi, e⟩ := List.mem_iff_getElem.mp h
  exact ⟨i, hi, by rw [List.getD_eq_getElem?_getD, List.getElem?_eq_getElem hi]; exact e⟩
set_option maxHeartbeats 4000000 in
set_option maxRecDepth 100000 in
theorem c_sameD (G : sv_G) (hl0 : G.1.stackTraces = false) (hki : sv_ki G) (h : sv_h) (z b : Nat) (k : Int32) (nc np pl : Nat) (R : Nat → Bool) (hm p3 p4 pa ma sz : Nat → Nat) (ly vo ar : Nat → Int32) (mp : Nat → mvT) (Z9 : sy_ G h b k nc np pl R hm p3 p4 pa ma sz ly vo ar mp) (X Y : Nat → Nat → Int) (fc : Nat → Nat → Nat) (oc : Nat → Nat → Option Nat) (PX : px_ G h np R pa sz X Y fc oc) (CK : ab_Chk G h b) (ru nr : Nat) (frl : Nat → Option Nat) (hrow : ab_Q G h ru 5 20 frl) (hfrl : ∀ j, j < 20 → frl j = some (ru + 1 + j)) (hruv : ru = b + 183 ∨ ru = b + 11) (ri : Nat) (hri : ri < nr) (hnr : nr ≤ 20) (n0 : Int64) (kd : Nat) (hkd : kd < 11) (l1 l2 x3 x4 x5 x6 : Int32) (hrl : h (ru + 1 + ri) = some (.inr (5, [.long n0, .ref (G.2.2.2.2.1 kd), .int l1, .int l2, .int x3, .int x4, .int x5, .int x6]))) (la fo fl : Nat) (hla : b + 204 ≤ la ∧ la + 4 ≤ b + 216) (hfo : b + 204 ≤ fo ∧ fo + 4 ≤ b + 216) (hfl : b + 204 ≤ fl ∧ fl + 4 ≤ b + 216) (hd1 : la + 4 ≤ fo ∨ fo + 4 ≤ la) (hd2 : la + 4 ≤ fl ∨ fl + 4 ≤ la) (hd3 : fo + 4 ≤ fl ∨ fl + 4 ≤ fo) (lX lf : Int32) (hD : h b = some (.inr (10, [.ref (b + 1), .ref (b + 8), .ref (b + 10), .ref (b + 32), .ref (b + 180), .ref ru, .int (nI nr), .int lX, .int lf, .ref la, .ref fo, .ref fl, .ref (b + 216)]))) (Afo : ab_any G h fo) (Afl : ab_any G h fl) (nw : Nat) (wr : Nat → Int64) (WV : ab_wv G h b nw wr) (hC : coB np R sz X Y) (hM : ∀ i, i < pl → mvB mp i) (har : ∀ p, p < np → R p = true → bd (ar p).toInt) (rk : Nat → Nat) (hr : ∀ i, i < pl → rk (p4 i) < rk (p3 i)) (hrk : ∀ c, c < nc → rk c < nc) (cl : Nat) (hcl : cl < nc) (g : Nat → Bool) (hg : ∀ d, d < 16 → (g d = true ↔ gr_R pl p3 p4 cl d)) (Lc : Nat → List (List Int64)) (hLc : (jCol kd l1 l2 x3 x4 x5 x6 np pl R hm p3 p4 ly vo ar mp sz X Y fc oc nc g cl) = ((List.range 16).flatMap Lc)) (hok : ∀ c, c < 16 → ∀ x, x < (Lc c).length → rok ((Lc c).getD x [])) (hcell : ∀ c, c < 16 → ∀ x, x < (Lc c).length → ((Lc c).getD x []).getD 7 0 = (nI c).toInt64) (hL0 : ∀ i, i < pl → gr_R pl p3 p4 cl (p3 i) → oc_n np pl R hm p3 p4 nc (p4 i) = 0 → ∀ f w, lS pl p3 p4 mp Lc f (p4 i) w = []) (Alo : ab_any G h (b + 216)) (hN : (oc_n np pl R hm p3 p4 nc cl) ≤ 100) (hEB : (jCol kd l1 l2 x3 x4 x5 x6 np pl R hm p3 p4 ly vo ar mp sz X Y fc oc nc g cl).length ≤ 1500) (hEF : (lS pl p3 p4 mp Lc 16 cl []).length ≤ 1500) (hsame : ∀ L1 : List (List Int64), L1.Perm ((jCol kd l1 l2 x3 x4 x5 x6 np pl R hm p3 p4 ly vo ar mp sz X Y fc oc nc g cl).filter (fun r => !cvB wr nw (nI ri) r)) → L1.Pairwise (fun x y => leR true x y = true) → ∃ Lq : Nat → List (List Int64), ddN L1 L1.length = (List.range 16).flatMap Lq ∧ (∀ c, c < 16 → ∀ x, x < (Lq c).length → rok ((Lq c).getD x [])) ∧ (∀ c, c < 16 → ∀ x, x < (Lq c).length → ((Lq c).getD x []).getD 7 0 = (nI c).toInt64) ∧ (∀ i, i < pl → gr_R pl p3 p4 cl (p3 i) → oc_n np pl R hm p3 p4 nc (p4 i) = 0 → ∀ f w, lS pl p3 p4 mp Lq f (p4 i) w = []) ∧ (lS pl p3 p4 mp Lq 16 cl []).length ≤ 1500 ∧ (∀ r, r ∈ lS pl p3 p4 mp Lq 16 cl [] → ∃ s, s ∈ ((lS pl p3 p4 mp Lc 16 cl []).filter (fun r => !cvB wr nw (nI ri) r)) ∧ al7 r s) ∧ ∀ s, s ∈ ((lS pl p3 p4 mp Lc 16 cl []).filter (fun r => !cvB wr nw (nI ri) r)) → ∃ r, r ∈ lS pl p3 p4 mp Lq 16 cl [] ∧ al7 r s) : CX G mX12_same [.ref b, .int (nI ri), .int (nI cl)] h z (fun v h3 z3 => v = some (.int 1) ∧ z3 = z ∧ ab_any G h3 fo ∧ ab_any G h3 fl ∧ ab_any G h3 (b + 216) ∧ (∃ f, ab_I G h3 (b + 6) 16 f) ∧ (∃ f, ab_I G h3 (b + 7) 16 f) ∧ ab_Chk G h3 b ∧ (∃ f, ab_J G h3 (b + 182) 8 f) ∧ (∀ a, a ≠ b + 6 → a ≠ b + 7 → ¬ (b + 32 ≤ a ∧ a < b + 180) → a ≠ b + 182 → ¬ (fo ≤ a ∧ a < fo + 4) → ¬ (fl ≤ a ∧ a < fl + 4) → ¬ (b + 216 ≤ a ∧ a < b + 220) → h3 a = h a)) (fun _ _ _ => False) := by
  refine CX.of (by decide +kernel) rfl rfl (Nat.le_of_ble_eq_true rfl) ?_
  obtain ⟨⟨c4, c5, ck1⟩, ⟨f34, ck2⟩, ck3, ck4, ck5⟩ := CK.opn
  obtain ⟨y1, _⟩ := id Z9
  obtain ⟨wn, w1, ⟨wf, w2, w3⟩, ⟨w8, w4⟩⟩ := id WV
  have hr0 : 0 ≤ nI ri ∧ nI ri < nI nr := ⟨Int32.not_lt.mp (nI_pos (by omega)), nI_lt hri (by omega)⟩
  have hc0 : 0 ≤ nI cl ∧ nI cl < nI nc := ⟨Int32.not_lt.mp (nI_pos (by have := Z9.2.2.2.2.2.2.2.2.2.1; omega)), nI_lt hcl (by have := Z9.2.2.2.2.2.2.2.2.2.1; omega)⟩
  refine v_aload_n dX12_same_0 rfl 0 rfl ?_
  refine v_iload_n dX12_same_1 rfl 1 rfl ?_
  refine v_callVq (M' := mX12_hasRule) (n := 1) (As := [_]) (ci := 10) (r := (RX12, TX12, 13)) gX12_same_X12_hasRule rfl (by decide +kernel) ⟨(Nat.le_of_ble_eq_true rfl), (Nat.le_of_ble_eq_true rfl)⟩ rfl rfl dX12_same_2 rfl ⟨(Nat.le_of_ble_eq_true rfl), (Nat.le_of_ble_eq_true rfl)⟩ (Nat.le_of_ble_eq_true rfl) (by first | with_reducible assumption) rfl (c_hasRule G h _ b (nI ri) _ _ _ _ _ _ _ _ _ _ _ _ _ hD) (fun v9 h9 y9 hq => v_pq hq ?_)
  refine v_if_eq (tgt := 19) dX12_same_5 (by decide) (fun c_5 => ?_) (fun c_5 => ?_)
  · exact absurd c_5 (by rw [if_pos hr0]; decide)
  · refine v_aload_n dX12_same_8 rfl 0 rfl ?_
    refine v_getf 0 (ci := 10) (C := RX12) (T := TX12) (N := 13) rfl iwX12_same_X12 (Nat.le_of_ble_eq_true rfl) (by decide +kernel) dX12_same_9 (by first | with_reducible assumption) rfl ?_
    refine v_iload_n dX12_same_12 rfl 2 rfl ?_
    refine v_callVq (M' := mX3_hasCell) (n := 1) (As := [_]) (ci := 1) (r := (RX3, TX3, 10)) gX12_same_X3_hasCell rfl (by decide +kernel) ⟨(Nat.le_of_ble_eq_true rfl), (Nat.le_of_ble_eq_true rfl)⟩ rfl rfl dX12_same_13 rfl ⟨(Nat.le_of_ble_eq_true rfl), (Nat.le_of_ble_eq_true rfl)⟩ (Nat.le_of_ble_eq_true rfl) (by first | with_reducible assumption) rfl (c_hasCell G h _ (b + 1) (nI cl) _ _ _ _ _ _ _ _ _ _ y1) (fun v9 h9 y9 hq => v_pq hq ?_)
    refine v_if_ne (tgt := 29) dX12_same_16 (by decide) (fun c_16 => ?_) (fun c_16 => ?_)
    · refine v_aload_n dX12_same_29 rfl 0 rfl ?_
      refine v_getf 3 (ci := 10) (C := RX12) (T := TX12) (N := 13) rfl iwX12_same_X12 (Nat.le_of_ble_eq_true rfl) (by decide +kernel) dX12_same_30 (by first | with_reducible assumption) rfl ?_
      refine v_aload_n dX12_same_33 rfl 0 rfl ?_
      refine v_getf 5 (ci := 10) (C := RX12) (T := TX12) (N := 13) rfl iwX12_same_X12 (Nat.le_of_ble_eq_true rfl) (by decide +kernel) dX12_same_34 (by first | with_reducible assumption) rfl ?_
      refine v_iload_n dX12_same_37 rfl 1 rfl ?_
      refine v_aaldS (t := 5) (q := ru + 1 + ri) dX12_same_38 (fun _ => rfl) (by first | with_reducible assumption) (vp_in_nI (by omega) (by omega)) (by rw [nI_clamp (by omega)]; exact hfrl ri (by omega)) ?_
      refine v_iload_n dX12_same_39 rfl 2 rfl ?_
      refine v_aload_n dX12_same_40 rfl 0 rfl ?_
      refine v_getf 10 (ci := 10) (C := RX12) (T := TX12) (N := 13) rfl iwX12_same_X12 (Nat.le_of_ble_eq_true rfl) (by decide +kernel) dX12_same_41 (by first | with_reducible assumption) rfl ?_
      refine v_callVq (M' := mX1_collect) (n := 3) (As := [_, _, _]) (ci := 0) (r := (RX1, TX1, 6)) gX12_same_X1_collect rfl (by decide +kernel) ⟨(Nat.le_of_ble_eq_true rfl), (Nat.le_of_ble_eq_true rfl)⟩ rfl rfl dX12_same_44 rfl ⟨(Nat.le_of_ble_eq_true rfl), (Nat.le_of_ble_eq_true rfl)⟩ (Nat.le_of_ble_eq_true rfl) (by first | with_reducible assumption) rfl (c_collect G hki h _ b k nc np pl R hm p3 p4 pa ma sz ly vo ar mp Z9 X Y fc oc PX ck3 (ru + 1 + ri) (by omega) n0 kd hkd l1 l2 x3 x4 x5 x6 hrl (by omega) fo (by omega) (by omega) c4 c5 ck1 Afo hC hM har rk hr hrk cl hcl g hg) (fun v h1 z1 hq9 => ?_)
      obtain ⟨rfl, hq9⟩ := hq9
      rcases hq9 with ⟨q1, _⟩ | ⟨q1, hv, ⟨hm1, E1⟩, Z1, ⟨f7, A7⟩, P1, N1, C1, F1⟩
      · exact absurd q1 (by omega)
      rw [if_pos hEB] at hv
      subst hv
      obtain ⟨_, _, _, _, _, ⟨f6, A6, _⟩, _⟩ := id Z1
      have D1 := (F1 b (by omega) (by omega) (by omega) (by omega) (by omega)).trans hD
      have M1 : ab_mvs G h1 (b + 33) 16 (b + 164) := mvs_k ck4 (F1 _ (by omega) (by omega) (by omega) (by omega) (by omega)) (fun j hj => F1 _ (by omega) (by omega) (by omega) (by omega) (by omega))
      have V1 : ab_mv0 G h1 (b + 164) := (F1 _ (by omega) (by omega) (by omega) (by omega) (by omega)).trans ck5
      have B1 : ab_I G h1 (b + 34) 17 f34 := (F1 _ (by omega) (by omega) (by omega) (by omega) (by omega)).trans ck2
      have L1_ : ab_any G h1 fl := Afl.kept (fun a p1 p2 => F1 a (by omega) (by omega) (by omega) (by omega) (by omega))
      have W18 : ab_J G h1 (b + 182) 8 w8 := (F1 _ (by omega) (by omega) (by omega) (by omega) (by omega)).trans w4
      have W11 := (F1 (b + 180) (by omega) (by omega) (by omega) (by omega) (by omega)).trans w1
      have W12 : ab_J G h1 (b + 181) 320 wf := (F1 (b + 181) (by omega) (by omega) (by omega) (by omega) (by omega)).trans w2
      obtain ⟨fso, hso⟩ := E1.obj
      have Lo1 : ab_any G h1 (b + 216) := Alo.kept (fun a p1 p2 => F1 a (by omega) (by omega) (by omega) (by omega) (by omega))
      refine v_istore_n (L' := [(3, _), (0, _), (1, _), (2, _)]) dX12_same_47 rfl (Nat.le_of_ble_eq_true rfl) rfl ?_
      refine v_iload_n dX12_same_48 rfl 0 rfl ?_
      refine v_if_eq (tgt := 71) dX12_same_49 (by decide) (fun c_49 => ?_) (fun c_49 => ?_)
      · exact absurd c_49 (by decide)
      · refine v_aload_n dX12_same_52 rfl 1 rfl ?_
        refine v_getf 3 (ci := 10) (C := RX12) (T := TX12) (N := 13) rfl iwX12_same_X12 (Nat.le_of_ble_eq_true rfl) (by decide +kernel) dX12_same_53 (by first | with_reducible assumption) rfl ?_
        refine v_aload_n dX12_same_56 rfl 1 rfl ?_
        refine v_getf 10 (ci := 10) (C := RX12) (T := TX12) (N := 13) rfl iwX12_same_X12 (Nat.le_of_ble_eq_true rfl) (by decide +kernel) dX12_same_57 (by first | with_reducible assumption) rfl ?_
        refine v_iload_n dX12_same_60 rfl 3 rfl ?_
        refine v_aload_n dX12_same_61 rfl 1 rfl ?_
        refine v_getf 11 (ci := 10) (C := RX12) (T := TX12) (N := 13) rfl iwX12_same_X12 (Nat.le_of_ble_eq_true rfl) (by decide +kernel) dX12_same_62 (by first | with_reducible assumption) rfl ?_
        refine v_callVq (M' := mX1_layOut) (n := 3) (As := [_, _, _]) (ci := 0) (r := (RX1, TX1, 6)) gX12_same_X1_layOut rfl (by decide +kernel) ⟨(Nat.le_of_ble_eq_true rfl), (Nat.le_of_ble_eq_true rfl)⟩ rfl rfl dX12_same_65 rfl ⟨(Nat.le_of_ble_eq_true rfl), (Nat.le_of_ble_eq_true rfl)⟩ (Nat.le_of_ble_eq_true rfl) (by first | with_reducible assumption) rfl (c_layOut G h1 _ b k nc np pl R hm p3 p4 pa ma sz ly vo ar mp (fun c => oc_n np pl R hm p3 p4 nc c) Z1 _ _ C1 M1 V1 f34 B1 Lc fo fl hd3 (by omega) (by omega) (by have := E1.tO hEB; rw [hLc] at this; exact this) L1_ hok hcell hM cl hcl hL0) (fun v h2 z2 hq9 => ?_)
        obtain ⟨rfl, hv2, ⟨hm2, E2⟩, M2, V2, ⟨g34, B2⟩, F2⟩ := hq9
        rw [if_pos hEF] at hv2
        subst hv2
        have D2 := (F2 b (by omega) (by omega) (by omega)).trans D1
        have C2 := (F2 (b + 32) (by omega) (by omega) (by omega)).trans C1
        have N2 : sn_ G b h2 := N1.frame (fun a p1 p2 => F2 a (by omega) (by omega) (by omega))
        have A62 : ab_I G h2 (b + 6) 16 f6 := (F2 _ (by omega) (by omega) (by omega)).trans A6
        have A72 : ab_I G h2 (b + 7) 16 f7 := (F2 _ (by omega) (by omega) (by omega)).trans A7
        have W28 : ab_J G h2 (b + 182) 8 w8 := (F2 _ (by omega) (by omega) (by omega)).trans W18
        have W21 := (F2 (b + 180) (by omega) (by omega) (by omega)).trans W11
        have W22 : ab_J G h2 (b + 181) 320 wf := (F2 _ (by omega) (by omega) (by omega)).trans W12
        have O2_ : ab_any G h2 fo := E1.any.kept (fun a p1 p2 => F2 a (by omega) (by omega) (by omega))
        have Lo2 : ab_any G h2 (b + 216) := Lo1.kept (fun a p1 p2 => F2 a (by omega) (by omega) (by omega))
        refine v_if_ne (tgt := 81) dX12_same_68 (by decide) (fun c_68 => ?_) (fun c_68 => ?_)
        · refine v_aload_n dX12_same_81 rfl 1 rfl ?_
          refine v_iload_n dX12_same_82 rfl 2 rfl ?_
          refine v_callVq (M' := mX12_tellFlat) (n := 1) (As := [_]) (ci := 10) (r := (RX12, TX12, 13)) gX12_same_X12_tellFlat rfl (by decide +kernel) ⟨(Nat.le_of_ble_eq_true rfl), (Nat.le_of_ble_eq_true rfl)⟩ rfl rfl dX12_same_83 rfl ⟨(Nat.le_of_ble_eq_true rfl), (Nat.le_of_ble_eq_true rfl)⟩ (Nat.le_of_ble_eq_true rfl) (by first | with_reducible assumption) rfl (c_tellFlat G _ b fl nw wr (nI ri) _ h2 W21 wf W22 w3 wn (by omega) (by omega) ru nr la fo lX lf D2 ⟨w8, W28⟩ (E2.tO hEF)) (fun v h3 z3 hq9 => ?_)
          obtain ⟨rfl, rfl, ⟨LF, H3, Q3, S3⟩, ⟨g8, G8⟩, F3⟩ := hq9
          have D3 := (F3 b (by omega) (by omega)).trans D2
          have W31 := (F3 (b + 180) (by omega) (by omega)).trans W21
          have W32 : ab_J G h3 (b + 181) 320 wf := (F3 _ (by omega) (by omega)).trans W22
          have T3 : tO G h3 fo (jCol kd l1 l2 x3 x4 x5 x6 np pl R hm p3 p4 ly vo ar mp sz X Y fc oc nc g cl) := (E1.tO hEB).kept (fun a p1 p2 => (F3 a (by omega) (by omega)).trans (F2 a (by omega) (by omega) (by omega)))
          refine v_aload_n dX12_same_86 rfl 1 rfl ?_
          refine v_iload_n dX12_same_87 rfl 2 rfl ?_
          refine v_callVq (M' := mX12_tellByCells) (n := 1) (As := [_]) (ci := 10) (r := (RX12, TX12, 13)) gX12_same_X12_tellByCells rfl (by decide +kernel) ⟨(Nat.le_of_ble_eq_true rfl), (Nat.le_of_ble_eq_true rfl)⟩ rfl rfl dX12_same_88 rfl ⟨(Nat.le_of_ble_eq_true rfl), (Nat.le_of_ble_eq_true rfl)⟩ (Nat.le_of_ble_eq_true rfl) (by first | with_reducible assumption) rfl (c_tellByCells G _ b fo nw wr (nI ri) _ h3 W31 wf W32 w3 wn (by omega) (by omega) ru nr la fl lX lf D3 ⟨g8, G8⟩ T3) (fun v h4 z4 hq9 => ?_)
          obtain ⟨rfl, rfl, ⟨L1, H4, Q4, S4_⟩, ⟨k8, K8⟩, F4⟩ := hq9
          obtain ⟨Lq, u1, u2, u3, u4, u5, u6, u7⟩ := hsame L1 Q4 S4_
          have D4 := (F4 b (by omega) (by omega)).trans D3
          have G4 : ∀ a, a ≠ b + 182 → ¬ (fo ≤ a ∧ a < fo + 4) → ¬ (fl ≤ a ∧ a < fl + 4) → h4 a = h2 a := fun a p1 p2 p3_ => (F4 a p1 p2).trans (F3 a p1 p3_)
          have Z4 := Z1.kept (h1 := h4) (fun a p => (G4 a (by omega) (by omega) (by omega)).trans (F2 a (by omega) (by omega) (by omega)))
          have C4 := (G4 (b + 32) (by omega) (by omega) (by omega)).trans C2
          have M4 : ab_mvs G h4 (b + 33) 16 (b + 164) := mvs_k M2 (G4 _ (by omega) (by omega) (by omega)) (fun j hj => G4 _ (by omega) (by omega) (by omega))
          have V4 : ab_mv0 G h4 (b + 164) := (G4 _ (by omega) (by omega) (by omega)).trans V2
          have B4 : ab_I G h4 (b + 34) 17 g34 := (G4 _ (by omega) (by omega) (by omega)).trans B2
          have Lo4 : ab_any G h4 (b + 216) := Lo2.kept (fun a p1 p2 => G4 a (by omega) (by omega) (by omega))
          have T4 : tO G h4 fo ((List.range 16).flatMap Lq) := (by rw [← u1]; exact H4)
          refine v_aload_n dX12_same_91 rfl 1 rfl ?_
          refine v_getf 3 (ci := 10) (C := RX12) (T := TX12) (N := 13) rfl iwX12_same_X12 (Nat.le_of_ble_eq_true rfl) (by decide +kernel) dX12_same_92 (by first | with_reducible assumption) rfl ?_
          refine v_aload_n dX12_same_95 rfl 1 rfl ?_
          refine v_getf 10 (ci := 10) (C := RX12) (T := TX12) (N := 13) rfl iwX12_same_X12 (Nat.le_of_ble_eq_true rfl) (by decide +kernel) dX12_same_96 (by first | with_reducible assumption) rfl ?_
          refine v_iload_n dX12_same_99 rfl 3 rfl ?_
          refine v_aload_n dX12_same_100 rfl 1 rfl ?_
          refine v_getf 12 (ci := 10) (C := RX12) (T := TX12) (N := 13) rfl iwX12_same_X12 (Nat.le_of_ble_eq_true rfl) (by decide +kernel) dX12_same_101 (by first | with_reducible assumption) rfl ?_
          refine v_callVq (M' := mX1_layOut) (n := 3) (As := [_, _, _]) (ci := 0) (r := (RX1, TX1, 6)) gX12_same_X1_layOut rfl (by decide +kernel) ⟨(Nat.le_of_ble_eq_true rfl), (Nat.le_of_ble_eq_true rfl)⟩ rfl rfl dX12_same_104 rfl ⟨(Nat.le_of_ble_eq_true rfl), (Nat.le_of_ble_eq_true rfl)⟩ (Nat.le_of_ble_eq_true rfl) (by first | with_reducible assumption) rfl (c_layOut G h4 _ b k nc np pl R hm p3 p4 pa ma sz ly vo ar mp (fun c => oc_n np pl R hm p3 p4 nc c) Z4 _ _ C4 M4 V4 g34 B4 Lq fo (b + 216) (by omega) (by omega) (by omega) T4 Lo4 u2 u3 hM cl hcl u4) (fun v h5 z5 hq9 => ?_)
          obtain ⟨rfl, rfl, ⟨hm5, E5⟩, M5, V5, ⟨k34, B5⟩, F5⟩ := hq9
          have D5 := (F5 b (by omega) (by omega) (by omega)).trans D4
          have T5 := E5.tO u5
          have X5 : tO G h5 fl LF := H3.kept (fun a p1 p2 => (F5 a (by omega) (by omega) (by omega)).trans (F4 a (by omega) (by omega)))
          obtain ⟨_, ax, aus, aov, ahm, aod, aw, _, a2, _⟩ := T5.ob
          refine v_pop dX12_same_107 rfl ?_
          refine v_aload_n dX12_same_108 rfl 1 rfl ?_
          refine v_getf 12 (ci := 10) (C := RX12) (T := TX12) (N := 13) rfl iwX12_same_X12 (Nat.le_of_ble_eq_true rfl) (by decide +kernel) dX12_same_109 (by first | with_reducible assumption) rfl ?_
          refine v_iconst (v := 0) dX12_same_112 (by decide) ?_
          refine v_callVq (M' := mX10_sort) (n := 1) (As := [_]) (ci := 8) (r := (RX10, TX10, 7)) gX12_same_X10_sort rfl (by decide +kernel) ⟨(Nat.le_of_ble_eq_true rfl), (Nat.le_of_ble_eq_true rfl)⟩ rfl rfl dX12_same_113 rfl ⟨(Nat.le_of_ble_eq_true rfl), (Nat.le_of_ble_eq_true rfl)⟩ (Nat.le_of_ble_eq_true rfl) (by first | with_reducible assumption) rfl (c_sort G h5 _ (b + 216) false _ T5) (fun v h6 z6 hq9 => ?_)
          obtain ⟨rfl, rfl, LL, H6, Q6, S6, F6⟩ := hq9
          have D6 := (F6 b (by omega)).trans D5
          have X6 : tO G h6 fl LF := X5.kept (fun a p1 p2 => F6 a (by omega))
          obtain ⟨_, bx, bus, bov, bhm, bod, bw, _, b2, _⟩ := H6.ob
          refine v_aload_n dX12_same_116 rfl 1 rfl ?_
          refine v_getf 12 (ci := 10) (C := RX12) (T := TX12) (N := 13) rfl iwX12_same_X12 (Nat.le_of_ble_eq_true rfl) (by decide +kernel) dX12_same_117 (by first | with_reducible assumption) rfl ?_
          refine v_aload_n dX12_same_120 rfl 1 rfl ?_
          refine v_getf 11 (ci := 10) (C := RX12) (T := TX12) (N := 13) rfl iwX12_same_X12 (Nat.le_of_ble_eq_true rfl) (by decide +kernel) dX12_same_121 (by first | with_reducible assumption) rfl ?_
          refine v_callVq (M' := mX10_hasSameAs) (n := 1) (As := [_]) (ci := 8) (r := (RX10, TX10, 7)) gX12_same_X10_hasSameAs rfl (by decide +kernel) ⟨(Nat.le_of_ble_eq_true rfl), (Nat.le_of_ble_eq_true rfl)⟩ rfl rfl dX12_same_124 rfl ⟨(Nat.le_of_ble_eq_true rfl), (Nat.le_of_ble_eq_true rfl)⟩ (Nat.le_of_ble_eq_true rfl) (by first | with_reducible assumption) rfl (c_hasSameAs G h6 _ (b + 216) fl LL LF H6 X6 S6 S3 (fun a ha => by obtain ⟨s, s1, s2⟩ := u6 _ (Q6.mem_iff.mp (getD_mem [] ha)); obtain ⟨c, s3, s4⟩ := mem_getD [] (Q3.mem_iff.mpr s1); exact ⟨c, s3, by rw [s4]; exact s2⟩) (fun c hc => by obtain ⟨s, s1, s2⟩ := u7 _ (Q3.mem_iff.mp (getD_mem [] hc)); obtain ⟨a, s3, s4⟩ := mem_getD [] (Q6.mem_iff.mpr s1); exact ⟨a, s3, by rw [s4]; exact s2⟩)) (fun v9 h9 y9 hq => v_pq hq ?_)
          exact v_xret (v_iret rfl dX12_same_127 (Nat.le_of_ble_eq_true rfl) (Nat.le_of_ble_eq_true rfl) rfl ⟨rfl, rfl, H4.any.kept (fun a p1 p2 => (F6 a (by omega)).trans (F5 a (by omega) (by omega) (by omega))), X6.any, H6.any, ⟨f6, (F6 _ (by omega)).trans ((F5 _ (by omega) (by omega) (by omega)).trans ((G4 _ (by omega) (by omega) (by omega)).trans A62))⟩, ⟨f7, (F6 _ (by omega)).trans ((F5 _ (by omega) (by omega) (by omega)).trans ((G4 _ (by omega) (by omega) (by omega)).trans A72))⟩, ab_Chk.mk9 (Or.inr ⟨_, rfl⟩) (Or.inr ⟨_, rfl⟩) ((F6 _ (by omega)).trans ((F5 _ (by omega) (by omega) (by omega)).trans C4)) ⟨k34, (F6 _ (by omega)).trans B5⟩ ((N2.frame (fun a p1 p2 => G4 a (by omega) (by omega) (by omega))).frame (fun a p1 p2 => (F6 a (by omega)).trans (F5 a (by omega) (by omega) (by omega)))) (mvs_k M5 (F6 _ (by omega)) (fun j hj => F6 _ (by omega))) ((F6 _ (by omega)).trans V5), ⟨k8, (F6 _ (by omega)).trans ((F5 _ (by omega) (by omega) (by omega)).trans K8)⟩, fun a p2 p3_ p4_ p5 p6 p7 p8 => (F6 a p8).trans ((F5 a (by omega) (by omega) p8).trans ((G4 a p5 p6 p7).trans ((F2 a (by omega) (by omega) p7).trans (F1 a p2 p3_ (by omega) (by omega) p6))))⟩)
        · exact absurd c_68 (by decide)
    · exact absurd c_16 (by rw [if_pos hc0]; decide)

set_option maxHeartbeats 4000000 in
set_option maxRecDepth 100000 in
theorem c_same_o2 (G : sv_G) (hl0 : G.1.stackTraces = false) (h : sv_h) (z b ru nr la fo fl : Nat) (lX lf : Int32) (hD : h b = some (.inr (10, [.ref (b + 1), .ref (b + 8), .ref (b + 10), .ref (b + 32), .ref (b + 180), .ref ru, .int (nI nr), .int lX, .int lf, .ref la, .ref fo, .ref fl, .ref (b + 216)]))) (ri : Nat) (hri : ri < nr) (hnr : nr ≤ 20) (po hd hs mo he nh : Nat) (k cs pn pl : Int32) (hly : h (b + 1) = some (.inr (1, [.int k, .int cs, .ref po, .int pn, .ref hd, .ref hs, .ref mo, .int pl, .ref he, .ref nh]))) (c : Int32) (hg : ¬ (0 ≤ c ∧ c < cs)) : CX G mX12_same [.ref b, .int (nI ri), .int c] h z (fun _ _ _ => False) (fun E h1 z1 => E = "java/lang/IndexOutOfBoundsException" ∧ h1 = h) := by
  refine CX.of (by decide +kernel) rfl rfl (Nat.le_of_ble_eq_true rfl) ?_
  have hr0 : 0 ≤ nI ri ∧ nI ri < nI nr := ⟨Int32.not_lt.mp (nI_pos (by omega)), nI_lt hri (by omega)⟩
  refine v_aload_n dX12_same_0 rfl 0 rfl ?_
  refine v_iload_n dX12_same_1 rfl 1 rfl ?_
  refine v_callVq (M' := mX12_hasRule) (n := 1) (As := [_]) (ci := 10) (r := (RX12, TX12, 13)) gX12_same_X12_hasRule rfl (by decide +kernel) ⟨(Nat.le_of_ble_eq_true rfl), (Nat.le_of_ble_eq_true rfl)⟩ rfl rfl dX12_same_2 rfl ⟨(Nat.le_of_ble_eq_true rfl), (Nat.le_of_ble_eq_true rfl)⟩ (Nat.le_of_ble_eq_true rfl) (by first | with_reducible assumption) rfl (c_hasRule G h _ b (nI ri) _ _ _ _ _ _ _ _ _ _ _ _ _ hD) (fun v9 h9 y9 hq => v_pq hq ?_)
  refine v_if_eq (tgt := 19) dX12_same_5 (by decide) (fun c_5 => ?_) (fun c_5 => ?_)
  · exact absurd c_5 (by rw [if_pos hr0]; decide)
  · refine v_aload_n dX12_same_8 rfl 0 rfl ?_
    refine v_getf 0 (ci := 10) (C := RX12) (T := TX12) (N := 13) rfl iwX12_same_X12 (Nat.le_of_ble_eq_true rfl) (by decide +kernel) dX12_same_9 (by first | with_reducible assumption) rfl ?_
    refine v_iload_n dX12_same_12 rfl 2 rfl ?_
    refine v_callVq (M' := mX3_hasCell) (n := 1) (As := [_]) (ci := 1) (r := (RX3, TX3, 10)) gX12_same_X3_hasCell rfl (by decide +kernel) ⟨(Nat.le_of_ble_eq_true rfl), (Nat.le_of_ble_eq_true rfl)⟩ rfl rfl dX12_same_13 rfl ⟨(Nat.le_of_ble_eq_true rfl), (Nat.le_of_ble_eq_true rfl)⟩ (Nat.le_of_ble_eq_true rfl) (by first | with_reducible assumption) rfl (c_hasCell G h _ (b + 1) c _ _ _ _ _ _ _ _ _ _ hly) (fun v9 h9 y9 hq => v_pq hq ?_)
    refine v_if_ne (tgt := 29) dX12_same_16 (by decide) (fun c_16 => ?_) (fun c_16 => ?_)
    · exact absurd (by rw [if_neg hg]) c_16
    · exact v_throw (ik := 121) (is := 192) (ic := 125) (cls := "java/lang/IndexOutOfBoundsException") (text := "no such rule or cell") (names := ["java/lang/RuntimeException", "java/lang/Exception"]) hl0 rfl (by decide +kernel) (by decide +kernel) (by decide +kernel) (by decide +kernel) (by decide +kernel) (by decide +kernel) (by decide +kernel) sv_bwO (by decide +kernel) dX12_same_19 dX12_same_22 dX12_same_23 dX12_same_25 dX12_same_28 rfl (Nat.le_of_ble_eq_true rfl) (Nat.le_of_ble_eq_true rfl) (Nat.le_of_ble_eq_true rfl) (Nat.le_of_ble_eq_true rfl) (fun z9 hz9 => ⟨rfl, rfl⟩)

