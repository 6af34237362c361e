section GU
variable {gu : Nat → Int64}
set_option maxRecDepth 20000 in
theorem ggX13_run_X13_sizeOf : GoodIn wsX13_run wsX13_sizeOf := goodIn_r _ [22, 23, 18, 24, 25, 26, 27, 28, 29, 30, 31, 32, 11, 33, 34, 35, 36, 37, 38, 39, 40, 41, 42, 43, 44, 45, 46, 47, 48, 49, 50, 51, 52, 53, 54, 211, 212, 213, 214, 215, 216, 217, 218, 219, 220, 221, 222, 223, 224, 225, 226, 227, 228, 229, 230, 231, 232, 233, 234, 235, 236, 237, 238, 239, 240, 241, 242, 243, 244, 245, 246, 247, 248, 249, 250, 251, 252, 253, 254, 255, 256, 257, 258, 259, 260, 261, 262, 263, 264, 265, 266, 267, 268, 269, 270, 271, 272, 273, 274, 275, 276, 277, 278, 279, 280, 281] (by decide +kernel) (by decide +kernel)
set_option maxRecDepth 20000 in
theorem gX13_run_X13_sizeOf : GoodIn wsX13_run (wsV RX13 218 RX13 yX13_sizeOf wsX13_sizeOf) := goodIn_app (goodIn_of _ (by decide +kernel)) ggX13_run_X13_sizeOf
set_option maxRecDepth 20000 in
set_option maxRecDepth 20000 in
theorem ggX13_run_X13_find_p0 : GoodIn wsX13_run [.code yX13_find cX13_find 7 (some .boolean)] := goodIn_r _ [58] (by decide +kernel) (by decide +kernel)
set_option maxRecDepth 20000 in
theorem ggX13_run_X13_find_p1 : GoodIn wsX13_run wsX13_find_r1 := goodIn_r _ [59, 60, 61, 62, 63, 18, 64, 19, 20, 21, 11, 22, 23, 24, 25, 26, 27, 28, 29, 30, 31, 32, 33, 34] (by decide +kernel) (by decide +kernel)
set_option maxRecDepth 20000 in
theorem ggX13_run_X13_find_p2 : GoodIn wsX13_run wsX13_find_r2 := goodIn_r _ [35, 36, 37, 38, 39, 40, 41, 42, 43, 44, 45, 46, 47, 48, 49, 50, 51, 52, 53, 54, 65, 66, 67, 68] (by decide +kernel) (by decide +kernel)
set_option maxRecDepth 20000 in
theorem ggX13_run_X13_find_p3 : GoodIn wsX13_run wsX13_find_r3 := goodIn_r _ [69, 70, 71, 72, 73, 74, 75, 76, 77, 78, 79, 80, 81, 82, 83, 84, 85, 86, 87, 88, 89, 90, 91, 2] (by decide +kernel) (by decide +kernel)
set_option maxRecDepth 20000 in
theorem ggX13_run_X13_find_p4 : GoodIn wsX13_run wsX13_find_r4 := goodIn_r _ [92, 93, 94, 95, 96, 97, 98, 99, 100, 101, 102, 103, 104, 105, 106, 107, 108, 109, 110, 111, 112, 113, 114, 115] (by decide +kernel) (by decide +kernel)
set_option maxRecDepth 20000 in
theorem ggX13_run_X13_find_p5 : GoodIn wsX13_run wsX13_find_r5 := goodIn_r _ [116, 117, 118, 119, 120, 121, 122, 123, 124, 125, 126, 127, 128, 129, 130, 131, 132, 133, 134, 135, 136, 137, 138, 139] (by decide +kernel) (by decide +kernel)
set_option maxRecDepth 20000 in
theorem ggX13_run_X13_find_p6 : GoodIn wsX13_run wsX13_find_r6 := goodIn_r _ [140, 141, 142, 4, 143, 144, 145, 146, 147, 148, 149, 150, 151, 152, 153, 154, 155, 156, 157, 158, 159, 160, 161, 162] (by decide +kernel) (by decide +kernel)
set_option maxRecDepth 20000 in
theorem ggX13_run_X13_find_p7 : GoodIn wsX13_run wsX13_find_r7 := goodIn_r _ [163, 164, 165, 166, 167, 168, 169, 170, 171, 172, 173, 174, 175, 176, 177, 178, 179, 180, 181, 182, 183, 184, 185, 186] (by decide +kernel) (by decide +kernel)
set_option maxRecDepth 20000 in
theorem ggX13_run_X13_find_p8 : GoodIn wsX13_run wsX13_find_r8 := goodIn_r _ [187, 188, 189, 190, 191, 192, 193, 194, 195, 196] (by decide +kernel) (by decide +kernel)
theorem ggX13_run_X13_find_p9 : GoodIn wsX13_run wsX130 := goodIn_sub iwX13_run_X13 (by decide +kernel)
theorem ggX13_run_X13_find : GoodIn wsX13_run wsX13_find := goodIn_cn ggX13_run_X13_find_p0 (goodIn_app (goodIn_app ggX13_run_X13_find_p1 (goodIn_app ggX13_run_X13_find_p2 (goodIn_app ggX13_run_X13_find_p3 (goodIn_app ggX13_run_X13_find_p4 (goodIn_app ggX13_run_X13_find_p5 (goodIn_app ggX13_run_X13_find_p6 (goodIn_app ggX13_run_X13_find_p7 ggX13_run_X13_find_p8))))))) ggX13_run_X13_find_p9)
set_option maxRecDepth 20000 in
theorem gX13_run_X13_find : GoodIn wsX13_run (wsV RX13 348 RX13 yX13_find wsX13_find) := goodIn_app (goodIn_of _ (by decide +kernel)) ggX13_run_X13_find
set_option maxRecDepth 20000 in
theorem ggX13_run_X13_arrange : GoodIn wsX13_run wsX13_arrange := goodIn_r _ [200, 61, 5, 60, 201, 202, 203, 11, 204, 205, 206, 59, 4, 207, 208, 209, 210, 211, 212, 213, 214, 215, 216, 217, 218, 219, 220, 221, 222, 223, 224, 225, 226, 227, 228, 229, 230, 231, 232, 233, 234, 235, 236, 237, 238, 239, 240, 241, 242, 243, 244, 245, 246, 247, 248, 249, 250, 251, 252, 253, 254, 255, 256, 257, 258, 259, 260, 261, 262, 263, 264, 265, 266, 267, 268, 269, 270, 271, 272, 273, 274, 275, 276, 277, 278, 279, 280, 281] (by decide +kernel) (by decide +kernel)
set_option maxRecDepth 20000 in
theorem gX13_run_X13_arrange : GoodIn wsX13_run (wsV RX13 352 RX13 yX13_arrange wsX13_arrange) := goodIn_app (goodIn_of _ (by decide +kernel)) ggX13_run_X13_arrange

set_option maxHeartbeats 4000000 in
set_option maxRecDepth 100000 in
theorem l_ruI (G : sv_G) (Qr : Option Value → sv_h → Nat → Prop) (z b nc np pl : Nat) (hb : sv_h) (fs : List Value) (hqf : mfq_ b nc np pl fs) (ri cl : Nat) (fv : Int32) (kx : List Nat) (hk15 : kx.length ≤ 1500) (hkx : ∀ x, x ∈ kx → x < 1500) (ord : Nat → Int32) (A58 : ab_I G hb (b + 258) 1500 ord) (hord : ∀ j, j < kx.length → ord j = nI (kx.getD j 0)) (g0 : Nat → Int64) (hm0 : hb (b + 220) = some (.inr (11, fs))) (h30 : fs[30]? = some (.int (nI kx.length))) (k : Nat) (hk1 : k < kx.length) (hk : ∀ (h : sv_h) (gt : Nat → Int64), ab_J G h (b + 241) 36048 gt → (∀ a, a < 18000 → gt a = g0 a) → (∀ k9 j9, k9 < (k + 1) → j9 < 12 → gt (18024 + (12 * k9 + j9)) = g0 (12 * kx.getD k9 0 + j9)) → (∀ a, a ≠ b + 241 → h a = hb a) → V G mX13_run (sv_MQ G mX13_run Qr) 143 [(4, .int (nI k)), (3, .int fv), (2, .int (nI cl)), (1, .int (nI ri)), (0, .ref (b + 220))] [] h z 0 0) : ∀ (e i : Nat) (h : sv_h) (gt : Nat → Int64), i + e = 12 → ab_J G h (b + 241) 36048 gt → (∀ a, a < 18000 → gt a = g0 a) → (∀ k9 j9, k9 < k → j9 < 12 → gt (18024 + (12 * k9 + j9)) = g0 (12 * kx.getD k9 0 + j9)) → (∀ j9, j9 < i → gt (18024 + (12 * k + j9)) = g0 (12 * kx.getD k 0 + j9)) → (∀ a, a ≠ b + 241 → h a = hb a) → V G mX13_run (sv_MQ G mX13_run Qr) 95 [(5, .int (nI i)), (4, .int (nI k)), (3, .int fv), (2, .int (nI cl)), (1, .int (nI ri)), (0, .ref (b + 220))] [] h z 0 0 := by
  intro e
  induction e with
  | zero =>
    intro i h gt hie a1 a2 a3 a4 fr
    have hlen : fs.length = 71 := hqf.1
    have hm9 := (fr (b + 220) (by omega)).trans hm0
    have w258 : ab_I G h (b + 258) 1500 ord := (fr _ (by omega)).trans A58
    have f_latest := h30
    have f_told := hqf.f_told
    have f_order := hqf.f_order
    have e9 : i = 12 := by omega
    subst e9
    refine v_iload dX13_run_95 0 rfl ?_
    refine v_bipush (v := 12) dX13_run_97 (by decide) ?_
    refine v_icmp_ge (tgt := 143) dX13_run_99 (by decide) (fun c_99 => ?_) (fun c_99 => ?_)
    · refine v_sub (L' := [(4, _), (3, _), (2, _), (1, _), (0, _)]) [1, 2, 3, 4, 5] rfl ?_
      refine hk h gt a1 a2 (fun k9 j9 q1 q2 => ?_) fr
      by_cases e9 : k9 = k
      · subst e9; exact a4 j9 q2
      · exact a3 k9 j9 (by omega) q2
    · exact absurd (by decide) c_99
  | succ e ih =>
    intro i h gt hie a1 a2 a3 a4 fr
    have hlen : fs.length = 71 := hqf.1
    have hm9 := (fr (b + 220) (by omega)).trans hm0
    have w258 : ab_I G h (b + 258) 1500 ord := (fr _ (by omega)).trans A58
    have f_latest := h30
    have f_told := hqf.f_told
    have f_order := hqf.f_order
    have hi : i < 12 := by omega
    have hx := hkx _ (getD_mem (l := kx) (i := k) 0 hk1)
    refine v_iload dX13_run_95 0 rfl ?_
    refine v_bipush (v := 12) dX13_run_97 (by decide) ?_
    refine v_icmp_ge (tgt := 143) dX13_run_99 (by decide) (fun c_99 => ?_) (fun c_99 => ?_)
    · exact absurd c_99 (nI_ge (b := 12) hi (by omega))
    · refine v_aload_n dX13_run_102 rfl 5 rfl ?_
      refine v_getf 27 (ci := 11) (C := RX13) (T := TX13) (N := 71) rfl iwX13_run_X13 (Nat.le_of_ble_eq_true rfl) (by decide +kernel) dX13_run_103 (by repeat (first | with_reducible assumption | (with_reducible refine sv_us.trans ?_; exact rfl) | with_reducible refine (sv_un (by omega)).trans ?_)) (by repeat (first | with_reducible assumption | (with_reducible refine (sv_ls (by first | omega | (simp only [List.length_set]; omega))).trans ?_; exact rfl) | with_reducible refine (List.getElem?_set_ne (by decide)).trans ?_)) ?_
      refine v_sipush (v := 18024) dX13_run_106 (by decide) ?_
      refine v_bipush (v := 12) dX13_run_109 (by decide) ?_
      refine v_iload dX13_run_111 1 rfl ?_
      refine v_imul dX13_run_113 ?_
      refine v_iadd dX13_run_114 ?_
      refine v_iload dX13_run_115 0 rfl ?_
      refine v_iadd dX13_run_117 ?_
      refine v_aload_n dX13_run_118 rfl 5 rfl ?_
      refine v_getf 27 (ci := 11) (C := RX13) (T := TX13) (N := 71) rfl iwX13_run_X13 (Nat.le_of_ble_eq_true rfl) (by decide +kernel) dX13_run_119 (by repeat (first | with_reducible assumption | (with_reducible refine sv_us.trans ?_; exact rfl) | with_reducible refine (sv_un (by omega)).trans ?_)) (by repeat (first | with_reducible assumption | (with_reducible refine (sv_ls (by first | omega | (simp only [List.length_set]; omega))).trans ?_; exact rfl) | with_reducible refine (List.getElem?_set_ne (by decide)).trans ?_)) ?_
      refine v_bipush (v := 12) dX13_run_122 (by decide) ?_
      refine v_aload_n dX13_run_124 rfl 5 rfl ?_
      refine v_getf 63 (ci := 11) (C := RX13) (T := TX13) (N := 71) rfl iwX13_run_X13 (Nat.le_of_ble_eq_true rfl) (by decide +kernel) dX13_run_125 (by repeat (first | with_reducible assumption | (with_reducible refine sv_us.trans ?_; exact rfl) | with_reducible refine (sv_un (by omega)).trans ?_)) (by repeat (first | with_reducible assumption | (with_reducible refine (sv_ls (by first | omega | (simp only [List.length_set]; omega))).trans ?_; exact rfl) | with_reducible refine (List.getElem?_set_ne (by decide)).trans ?_)) ?_
      refine v_iload dX13_run_128 1 rfl ?_
      refine v_ialdS (v := nI (kx.getD k 0)) dX13_run_130 (by repeat (first | with_reducible assumption | (with_reducible refine sv_us.trans ?_; exact rfl) | with_reducible refine (sv_un (by omega)).trans ?_)) (vp_in_nI (by omega) (by omega)) (by rw [nI_clamp (by omega)]; exact hord k hk1) ?_
      refine v_imul dX13_run_131 ?_
      refine v_iload dX13_run_132 0 rfl ?_
      refine v_iadd dX13_run_134 ?_
      rw [sv_12m, nI_add]
      refine v_laldS (v := g0 (12 * kx.getD k 0 + i)) dX13_run_135 (by repeat (first | with_reducible assumption | (with_reducible refine sv_us.trans ?_; exact rfl) | with_reducible refine (sv_un (by omega)).trans ?_)) (vp_in_nI (by omega) (by omega)) (by rw [nI_clamp (by omega)]; exact a2 _ (by omega)) ?_
      rw [sv_12m, show (18024 : Int32) = nI 18024 from rfl, nI_add, nI_add]
      refine v_last dX13_run_136 (by repeat (first | with_reducible assumption | (with_reducible refine sv_us.trans ?_; exact rfl) | with_reducible refine (sv_un (by omega)).trans ?_)) (vp_in_nI (by omega) (by omega)) ?_
      refine v_iinc (j := 0) (L' := [(5, _), (4, _), (3, _), (2, _), (1, _), (0, _)]) (v := nI (i + 1)) dX13_run_137 rfl (nI_1 _) (Nat.le_of_ble_eq_true rfl) rfl ?_
      refine v_goto (tgt := 95) dX13_run_140 (by decide) ?_
      refine v_sub (L' := [(5, _), (4, _), (3, _), (2, _), (1, _), (0, _)]) [0, 1, 2, 3, 4, 5] rfl ?_
      rw [nI_clamp (show 18024 + 12 * k + i < 2 ^ 31 by omega)]
      refine ih (i + 1) _ (vp_updL gt (18024 + 12 * k + i) (g0 (12 * kx.getD k 0 + i))) (by omega) sv_us (fun a p => (pk_uLn (by omega)).trans (a2 a p)) (fun k9 j9 q1 q2 => (pk_uLn (by omega)).trans (a3 k9 j9 q1 q2)) (fun j9 q => ?_) (fun a p => (sv_un p).trans (fr a p))
      by_cases e9 : j9 = i
      · subst e9
        rw [show 18024 + (12 * k + j9) = 18024 + 12 * k + j9 by omega]
        exact pk_uLs
      · exact (pk_uLn (by omega)).trans (a4 j9 (by omega))

set_option maxHeartbeats 4000000 in
set_option maxRecDepth 100000 in
theorem l_ruO (G : sv_G) (Qr : Option Value → sv_h → Nat → Prop) (z b nc np pl : Nat) (hb : sv_h) (fs : List Value) (hqf : mfq_ b nc np pl fs) (ri cl : Nat) (fv : Int32) (kx : List Nat) (hk15 : kx.length ≤ 1500) (hkx : ∀ x, x ∈ kx → x < 1500) (ord : Nat → Int32) (A58 : ab_I G hb (b + 258) 1500 ord) (hord : ∀ j, j < kx.length → ord j = nI (kx.getD j 0)) (g0 : Nat → Int64) (hm0 : hb (b + 220) = some (.inr (11, fs))) (h30 : fs[30]? = some (.int (nI kx.length))) (hk : ∀ (h : sv_h) (gt : Nat → Int64), h (b + 220) = some (.inr (11, ((fs.set 31 (.int (nI ri))).set 32 (.int fv)))) → ab_J G h (b + 241) 36048 gt → (∀ k9 j9, k9 < kx.length → j9 < 12 → gt (18024 + (12 * k9 + j9)) = g0 (12 * kx.getD k9 0 + j9)) → (∀ a, a ≠ b + 220 → a ≠ b + 241 → h a = hb a) → Qr (some (.int (nI kx.length))) h z) : ∀ (e k : Nat) (h : sv_h) (gt : Nat → Int64), k + e = kx.length → ab_J G h (b + 241) 36048 gt → (∀ a, a < 18000 → gt a = g0 a) → (∀ k9 j9, k9 < k → j9 < 12 → gt (18024 + (12 * k9 + j9)) = g0 (12 * kx.getD k9 0 + j9)) → (∀ a, a ≠ b + 241 → h a = hb a) → V G mX13_run (sv_MQ G mX13_run Qr) 83 [(4, .int (nI k)), (3, .int fv), (2, .int (nI cl)), (1, .int (nI ri)), (0, .ref (b + 220))] [] h z 0 0 := by
  intro e
  induction e with
  | zero =>
    intro k h gt hke a1 a2 a3 fr
    have hlen : fs.length = 71 := hqf.1
    have hm9 := (fr (b + 220) (by omega)).trans hm0
    have w258 : ab_I G h (b + 258) 1500 ord := (fr _ (by omega)).trans A58
    have f_latest := h30
    have f_told := hqf.f_told
    have f_order := hqf.f_order
    have e9 : k = kx.length := by omega
    subst e9
    refine v_iload dX13_run_83 0 rfl ?_
    refine v_aload_n dX13_run_85 rfl 4 rfl ?_
    refine v_getf 30 (ci := 11) (C := RX13) (T := TX13) (N := 71) rfl iwX13_run_X13 (Nat.le_of_ble_eq_true rfl) (by decide +kernel) dX13_run_86 (by repeat (first | with_reducible assumption | (with_reducible refine sv_us.trans ?_; exact rfl) | with_reducible refine (sv_un (by omega)).trans ?_)) (by repeat (first | with_reducible assumption | (with_reducible refine (sv_ls (by first | omega | (simp only [List.length_set]; omega))).trans ?_; exact rfl) | with_reducible refine (List.getElem?_set_ne (by decide)).trans ?_)) ?_
    refine v_icmp_ge (tgt := 149) dX13_run_89 (by decide) (fun c_89 => ?_) (fun c_89 => ?_)
    · refine v_aload_n dX13_run_149 rfl 4 rfl ?_
      refine v_iload_n dX13_run_150 rfl 3 rfl ?_
      refine v_putf 31 (fs' := _) (ci := 11) (C := RX13) (T := TX13) (N := 71) (ty := .int) rfl iwX13_run_X13 tyX13 tyX13_ok nmX13 (Nat.le_of_ble_eq_true rfl) (by decide +kernel) rfl rfl dX13_run_151 rfl rfl (by repeat (first | with_reducible assumption | (with_reducible refine sv_us.trans ?_; exact rfl) | with_reducible refine (sv_un (by omega)).trans ?_)) (by first | omega | (simp only [List.length_set]; omega)) rfl ?_
      refine v_aload_n dX13_run_154 rfl 4 rfl ?_
      refine v_iload_n dX13_run_155 rfl 1 rfl ?_
      refine v_putf 32 (fs' := _) (ci := 11) (C := RX13) (T := TX13) (N := 71) (ty := .boolean) rfl iwX13_run_X13 tyX13 tyX13_ok nmX13 (Nat.le_of_ble_eq_true rfl) (by decide +kernel) rfl rfl dX13_run_156 rfl rfl (by repeat (first | with_reducible assumption | (with_reducible refine sv_us.trans ?_; exact rfl) | with_reducible refine (sv_un (by omega)).trans ?_)) (by first | omega | (simp only [List.length_set]; omega)) rfl ?_
      refine v_aload_n dX13_run_159 rfl 4 rfl ?_
      refine v_getf 30 (ci := 11) (C := RX13) (T := TX13) (N := 71) rfl iwX13_run_X13 (Nat.le_of_ble_eq_true rfl) (by decide +kernel) dX13_run_160 (by repeat (first | with_reducible assumption | (with_reducible refine sv_us.trans ?_; exact rfl) | with_reducible refine (sv_un (by omega)).trans ?_)) (by repeat (first | with_reducible assumption | (with_reducible refine (sv_ls (by first | omega | (simp only [List.length_set]; omega))).trans ?_; exact rfl) | with_reducible refine (List.getElem?_set_ne (by decide)).trans ?_)) ?_
      exact v_iret rfl dX13_run_163 (Nat.le_of_ble_eq_true rfl) (Nat.le_of_ble_eq_true rfl) rfl (hk _ gt sv_us ((sv_un (by omega)).trans ((sv_un (by omega)).trans a1)) a3 (fun a p1 p2 => (sv_un p1).trans ((sv_un p1).trans (fr a p2))))
    · exact absurd (nI_le (Nat.le_refl _) (by omega)) c_89
  | succ e ih =>
    intro k h gt hke a1 a2 a3 fr
    have hlen : fs.length = 71 := hqf.1
    have hm9 := (fr (b + 220) (by omega)).trans hm0
    have w258 : ab_I G h (b + 258) 1500 ord := (fr _ (by omega)).trans A58
    have f_latest := h30
    have f_told := hqf.f_told
    have f_order := hqf.f_order
    have hk1 : k < kx.length := by omega
    have hkk : ∀ (h : sv_h) (gt : Nat → Int64), ab_J G h (b + 241) 36048 gt → (∀ a, a < 18000 → gt a = g0 a) → (∀ k9 j9, k9 < (k + 1) → j9 < 12 → gt (18024 + (12 * k9 + j9)) = g0 (12 * kx.getD k9 0 + j9)) → (∀ a, a ≠ b + 241 → h a = hb a) → V G mX13_run (sv_MQ G mX13_run Qr) 143 [(4, .int (nI k)), (3, .int fv), (2, .int (nI cl)), (1, .int (nI ri)), (0, .ref (b + 220))] [] h z 0 0 := (by
      intro h2 gt2 v1 v2 v3 v4
      refine v_iinc (j := 0) (L' := [(4, _), (3, _), (2, _), (1, _), (0, _)]) (v := nI (k + 1)) dX13_run_143 rfl (nI_1 _) (Nat.le_of_ble_eq_true rfl) rfl ?_
      refine v_goto (tgt := 83) dX13_run_146 (by decide) ?_
      refine v_sub (L' := [(4, _), (3, _), (2, _), (1, _), (0, _)]) [0, 1, 2, 3, 4] rfl ?_
      exact ih (k + 1) h2 gt2 (by omega) v1 v2 v3 v4)
    refine v_iload dX13_run_83 0 rfl ?_
    refine v_aload_n dX13_run_85 rfl 4 rfl ?_
    refine v_getf 30 (ci := 11) (C := RX13) (T := TX13) (N := 71) rfl iwX13_run_X13 (Nat.le_of_ble_eq_true rfl) (by decide +kernel) dX13_run_86 (by repeat (first | with_reducible assumption | (with_reducible refine sv_us.trans ?_; exact rfl) | with_reducible refine (sv_un (by omega)).trans ?_)) (by repeat (first | with_reducible assumption | (with_reducible refine (sv_ls (by first | omega | (simp only [List.length_set]; omega))).trans ?_; exact rfl) | with_reducible refine (List.getElem?_set_ne (by decide)).trans ?_)) ?_
    refine v_icmp_ge (tgt := 149) dX13_run_89 (by decide) (fun c_89 => ?_) (fun c_89 => ?_)
    · exact absurd c_89 (nI_ge hk1 (by omega))
    · refine v_iconst (v := 0) dX13_run_92 (by decide) ?_
      refine v_istore (L' := [(5, _), (4, _), (3, _), (2, _), (1, _), (0, _)]) dX13_run_93 (Nat.le_of_ble_eq_true rfl) rfl ?_
      refine v_sub (L' := [(5, _), (4, _), (3, _), (2, _), (1, _), (0, _)]) [0, 1, 2, 3, 4, 5] rfl ?_
      exact l_ruI G Qr z b nc np pl hb fs hqf ri cl fv kx hk15 hkx ord A58 hord g0 hm0 h30 k hk1 hkk 12 0 h gt rfl a1 a2 a3 (fun j9 q => absurd q (Nat.not_lt_zero j9)) fr

set_option maxHeartbeats 4000000 in
set_option maxRecDepth 100000 in
theorem t_ru72 (G : sv_G) (Qr : Option Value → sv_h → Nat → Prop) (z b nc np pl : Nat) (hb : sv_h) (fs0 : List Value) (hq0 : mfq_ b nc np pl fs0) (hm0 : hb (b + 220) = some (.inr (11, fs0))) (ri cl : Nat) (fv : Int32) (h59 : fs0[59]? = some (.int fv)) (E : List (List Int64)) (hE15 : E.length ≤ 1500) (T : mT_ gu G hb b fs0 E) (nw : Nat) (hnw : nw ≤ 40) (h33 : fs0[33]? = some (.int (nI nw))) (h58 : fs0[58]? = some (.int (nI ri))) (wr wf : Nat → Int64) (w42 : ab_J G hb (b + 242) 320 wf) (hwr : ∀ k, k < nw → ∀ j, j < 8 → wf (8 * k + ab_wc j) = wr (8 * k + j)) (A58 : ∃ f, ab_I G hb (b + 258) 1500 f) (hk : ∀ (h : sv_h) (ix : List Nat) (gt : Nat → Int64), h (b + 220) = some (.inr (11, (((fs0.set 30 (.int (nI (ddI (decide (fv = 0)) E ix ix.length).length))).set 31 (.int (nI ri))).set 32 (.int fv)))) → ix.Perm ((List.range E.length).filter (fun x => !cvB wr nw (nI ri) (E.getD x []))) → srt (decide (fv = 0)) E ix → ab_J G h (b + 241) 36048 gt → (∀ k9 j9, k9 < (ddI (decide (fv = 0)) E ix ix.length).length → j9 < 12 → gt (18024 + (12 * k9 + j9)) = (E.getD ((ddI (decide (fv = 0)) E ix ix.length).getD k9 0) []).getD j9 0) → (∃ f, ab_I G h (b + 258) 1500 f) → (∀ a, a ≠ b + 220 → a ≠ b + 241 → a ≠ b + 258 → h a = hb a) → Qr (some (.int (nI (ddI (decide (fv = 0)) E ix ix.length).length))) h z) : V G mX13_run (sv_MQ G mX13_run Qr) 72 [(3, .int fv), (2, .int (nI cl)), (1, .int (nI ri)), (0, .ref (b + 220))] [] hb z 0 0 := by
  have hlen : fs0.length = 71 := hq0.1
  obtain ⟨o58, v58⟩ := A58
  obtain ⟨_, _, g0, t41, tg, hgu⟩ := id T
  refine v_aload_n dX13_run_72 rfl 3 rfl ?_
  refine v_aload_n dX13_run_73 rfl 3 rfl ?_
  refine v_callV (M' := mX13_arrange) (n := 0) (As := []) (ci := 11) (r := (RX13, TX13, 71)) gX13_run_X13_arrange rfl (by decide +kernel) ⟨(Nat.le_of_ble_eq_true rfl), (Nat.le_of_ble_eq_true rfl)⟩ rfl rfl dX13_run_74 rfl ⟨(Nat.le_of_ble_eq_true rfl), (Nat.le_of_ble_eq_true rfl)⟩ (Nat.le_of_ble_eq_true rfl) (by repeat (first | with_reducible assumption | (with_reducible refine sv_us.trans ?_; exact rfl) | with_reducible refine (sv_un (by omega)).trans ?_)) rfl (m_arrange G _ b nc np pl hb fs0 hq0 hm0 fv h59 E hE15 T nw hnw h33 (nI ri) h58 wr wf w42 hwr o58 v58) (fun v9 h1 z1 hq9 => ?_)
  obtain ⟨rfl, fr1, ord, ix, p1, p2, p3_, rfl, p4_⟩ := hq9
  have hm1 := (fr1 (b + 220) (by omega)).trans hm0
  have hxi : ∀ x, x ∈ ix → x < E.length := fun x hx => List.mem_range.mp (List.mem_filter.mp (p1.mem_iff.mp hx)).1
  have hix : ix.length ≤ E.length := (by
    have q := List.length_filter_le (fun x => !cvB wr nw (nI ri) (E.getD x [])) (List.range E.length)
    rw [← p1.length_eq, List.length_range] at q
    exact q)
  have hkl := ddI_le (decide (fv = 0)) E ix ix.length
  refine v_putf 30 (fs' := _) (ci := 11) (C := RX13) (T := TX13) (N := 71) (ty := .int) rfl iwX13_run_X13 tyX13 tyX13_ok nmX13 (Nat.le_of_ble_eq_true rfl) (by decide +kernel) rfl rfl dX13_run_77 rfl rfl (by repeat (first | with_reducible assumption | (with_reducible refine sv_us.trans ?_; exact rfl) | with_reducible refine (sv_un (by omega)).trans ?_)) (by first | omega | (simp only [List.length_set]; omega)) rfl ?_
  refine v_iconst (v := 0) dX13_run_80 (by decide) ?_
  refine v_istore (L' := [(4, _), (3, _), (2, _), (1, _), (0, _)]) dX13_run_81 (Nat.le_of_ble_eq_true rfl) rfl ?_
  refine v_sub (L' := [(4, _), (3, _), (2, _), (1, _), (0, _)]) [0, 1, 2, 3, 4] rfl ?_
  refine l_ruO G Qr _ b nc np pl _ (fs0.set 30 (.int (nI (ddI (decide (fv = 0)) E ix ix.length).length))) (hq0.to (S := [30]) (by rw [List.length_set]; exact hq0.1) (fsE.rf.st (by decide)) (by decide)) ri cl fv (ddI (decide (fv = 0)) E ix ix.length) (by omega) (fun x hx => Nat.lt_of_lt_of_le (hxi x (ddI_m (decide (fv = 0)) E ix ix.length (Nat.le_refl _) x hx)) (by omega)) ord ((sv_un (by omega)).trans p3_) p4_ g0 sv_us (sv_ls (by omega)) (fun h2 gt2 v1 v2 v3 v4 => ?_) (ddI (decide (fv = 0)) E ix ix.length).length 0 _ g0 (Nat.zero_add _) ((sv_un (by omega)).trans ((fr1 _ (by omega)).trans t41)) (fun _ _ => rfl) (fun k9 j9 q => absurd q (Nat.not_lt_zero k9)) (fun _ _ => rfl)
  refine hk h2 ix gt2 v1 p1 p2 v2 (fun k9 j9 q1 q2 => ?_) ⟨ord, (v4 _ (by omega) (by omega)).trans ((sv_un (by omega)).trans p3_)⟩ (fun a q1 q2 q3 => (v4 a q1 q2).trans ((sv_un q1).trans (fr1 a q3)))
  rw [v3 k9 j9 q1 q2]
  exact tg hE15 _ (hxi _ (ddI_m (decide (fv = 0)) E ix ix.length (Nat.le_refl _) _ (getD_mem 0 q1))) j9 q2

theorem lN_to {n : Nat} (h : n ≤ 100000) : (lN n).toInt = (n : Int) := jN_to (a := (n : Int)) (by omega) (by omega)
theorem lN_100 {n : Nat} (h : ¬ (100 : Int64) < lN (min 100000 n)) : n ≤ 100 := by
  rw [Int64.lt_iff_toInt_lt, lN_to (Nat.min_le_left _ _)] at h
  have h : ¬ (100 : Int) < ((min 100000 n : Nat) : Int) := h
  omega
theorem lN_101 {n : Nat} (h : (100 : Int64) < lN (min 100000 n)) : ¬ n ≤ 100 := by
  rw [Int64.lt_iff_toInt_lt, lN_to (Nat.min_le_left _ _)] at h
  have h : (100 : Int) < ((min 100000 n : Nat) : Int) := h
  omega
set_option maxHeartbeats 4000000 in
set_option maxRecDepth 100000 in
theorem m_run (G : sv_G) (z b nc np pl : Nat) (R : Nat → Bool) (hm p3 p4 sz : Nat → Nat) (ly vo : Nat → Int32) (mp : Nat → mvT) (X Y : Nat → Nat → Int) (hb : sv_h) (fs0 : List Value) (hq0 : mfq_ b nc np pl fs0) (MY : myl_ G hb b nc np pl R hm p3 p4 sz ly vo mp X Y) (hXY : ∀ p, p < np → ∀ i, i < sz p → (-10000 ≤ X p i ∧ X p i ≤ 10000) ∧ (-10000 ≤ Y p i ∧ Y p i ≤ 10000)) (hR : ∀ p, p < np → (R p = true ↔ gm_mr (sz p) (fun i => iN (X p i)) (fun i => iN (Y p i)))) (rk : Nat → Nat) (hr : ∀ i, i < pl → rk (p4 i) < rk (p3 i)) (hrn : ∀ c, c < nc → rk c < nc) (OKH : ∀ c, c < nc → mok_ np pl sz mp X Y (dS np pl (rQ R hm) p3 p4 16 c [])) (ri kd : Nat) (l1 l2 x3 x4 x5 x6 : Int32) (RU : mru_ G hb b ri kd l1 l2 x3 x4 x5 x6) (hen : x6 = -1 ∨ 0 ≤ x6) (n0 pg0 : Nat → Nat) (cc0 : Nat → Nat → Int × Int) (cl : Nat) (hcl : cl < nc) (hN1 : oc_n np pl R hm p3 p4 16 cl ≤ 100 → ∀ c, gr_R pl p3 p4 cl c → oc_n np pl R hm p3 p4 16 c ≤ 100) (fv : Int32) (hbw : (kd = 5 ∨ kd = 6) → ∀ i, i < (dS np pl (rQ R hm) p3 p4 16 cl []).length → (bxW mp sz X Y (dS np pl (rQ R hm) p3 p4 16 cl [])) i 0 < (bxW mp sz X Y (dS np pl (rQ R hm) p3 p4 16 cl [])) i 2 ∧ (bxW mp sz X Y (dS np pl (rQ R hm) p3 p4 16 cl [])) i 1 < (bxW mp sz X Y (dS np pl (rQ R hm) p3 p4 16 cl [])) i 3) (g : Nat → Bool) (hg : ∀ d, d < 16 → (g d = true ↔ gr_R pl p3 p4 cl d)) (mo : Int32) (h60 : fs0[60]? = some (.int mo)) (gt : Nat → Int64) (t41 : ab_J G hb (b + 241) 36048 gt) (hgu : ∀ a, 18000 ≤ a → gt a = gu a) (UF0 : ∃ uf, ab_Z G hb (b + 243) 16 uf) (SC0 : msc_ G hb b n0 pg0 cc0) (hm9 : hb (b + 220) = some (.inr (11, fs0))) (nr : Nat) (hnr : nr ≤ 20) (hri : ri < nr) (h18 : fs0[18]? = some (.int (nI nr))) (nw : Nat) (hnw : nw ≤ 40) (h33 : fs0[33]? = some (.int (nI nw))) (wr wf : Nat → Int64) (w42 : ab_J G hb (b + 242) 320 wf) (hwr : ∀ k, k < nw → ∀ j, j < 8 → wf (8 * k + ab_wc j) = wr (8 * k + j)) (A58 : ∃ f, ab_I G hb (b + 258) 1500 f) : CT G mX13_run [.ref (b + 220), .int (nI ri), .int (nI cl), .int fv] hb z (fun v h1 z1 => z1 = z ∧ ∃ fs1, h1 (b + 220) = some (.inr (11, fs1)) ∧ fs1.length = 71 ∧ (∀ a, a ≠ b + 220 → a ≠ b + 241 → ¬ (b + 243 ≤ a ∧ a < b + 259) → h1 a = hb a) ∧ (∃ uf, ab_Z G h1 (b + 243) 16 uf) ∧ msc_ G h1 b n0 pg0 cc0 ∧ (∃ f, ab_I G h1 (b + 258) 1500 f) ∧ ((((oc_n np pl R hm p3 p4 16 cl) ≤ 100 → 1500 < (fiQ fv kd l1 l2 x3 x4 x5 x6 nc np pl R hm p3 p4 ly vo mp sz X Y g cl).length) ∧ v = some (.int 0) ∧ fs1[0]? = some (.int 2) ∧ fsE (0 :: [28, 29, 36, 41, 52, 53, 54, 55, 56, 57, 58, 59, 60, 61, 62]) fs0 fs1 ∧ ∃ gt1, ab_J G h1 (b + 241) 36048 gt1 ∧ ∀ a, 18000 ≤ a → gt1 a = gu a) ∨ ((oc_n np pl R hm p3 p4 16 cl) ≤ 100 ∧ (fiQ fv kd l1 l2 x3 x4 x5 x6 nc np pl R hm p3 p4 ly vo mp sz X Y g cl).length ≤ 1500 ∧ ∃ (ix : List Nat) (gt1 : Nat → Int64), v = some (.int (nI (ddI (decide (fv = 0)) (fiQ fv kd l1 l2 x3 x4 x5 x6 nc np pl R hm p3 p4 ly vo mp sz X Y g cl) ix ix.length).length)) ∧ fs1[0]? = some (.int 0) ∧ fs1[30]? = some (.int (nI (ddI (decide (fv = 0)) (fiQ fv kd l1 l2 x3 x4 x5 x6 nc np pl R hm p3 p4 ly vo mp sz X Y g cl) ix ix.length).length)) ∧ fs1[31]? = some (.int (nI ri)) ∧ fs1[32]? = some (.int fv) ∧ fsE (0 :: 30 :: 31 :: 32 :: [28, 29, 36, 41, 52, 53, 54, 55, 56, 57, 58, 59, 60, 61, 62]) fs0 fs1 ∧ ix.Perm ((List.range (fiQ fv kd l1 l2 x3 x4 x5 x6 nc np pl R hm p3 p4 ly vo mp sz X Y g cl).length).filter (fun x => !cvB wr nw (nI ri) ((fiQ fv kd l1 l2 x3 x4 x5 x6 nc np pl R hm p3 p4 ly vo mp sz X Y g cl).getD x []))) ∧ srt (decide (fv = 0)) (fiQ fv kd l1 l2 x3 x4 x5 x6 nc np pl R hm p3 p4 ly vo mp sz X Y g cl) ix ∧ ab_J G h1 (b + 241) 36048 gt1 ∧ ∀ k9 j9, k9 < (ddI (decide (fv = 0)) (fiQ fv kd l1 l2 x3 x4 x5 x6 nc np pl R hm p3 p4 ly vo mp sz X Y g cl) ix ix.length).length → j9 < 12 → gt1 (18024 + (12 * k9 + j9)) = ((fiQ fv kd l1 l2 x3 x4 x5 x6 nc np pl R hm p3 p4 ly vo mp sz X Y g cl).getD ((ddI (decide (fv = 0)) (fiQ fv kd l1 l2 x3 x4 x5 x6 nc np pl R hm p3 p4 ly vo mp sz X Y g cl) ix ix.length).getD k9 0) []).getD j9 0))) := by
  refine CT.of (by decide +kernel) rfl rfl (Nat.le_of_ble_eq_true rfl) ?_
  have hlen : fs0.length = 71 := hq0.1
  obtain ⟨_, _, _, _, _, _, _, _, _, _, _, yB, yC, yD, yE, yF⟩ := id MY
  obtain ⟨⟨_, s44⟩, ⟨_, s45⟩, ⟨_, s46⟩, ⟨_, s47⟩, ⟨_, s48⟩, sL⟩ := id SC0
  obtain ⟨_, sU⟩ := id UF0
  obtain ⟨_, s58⟩ := id A58
  have hr0 : 0 ≤ nI ri ∧ nI ri < nI nr := ⟨nI_le (a := 0) (Nat.zero_le _) (by omega), Int32.not_le.mp (nI_ge hri (by omega))⟩
  have hc0 : 0 ≤ nI cl ∧ nI cl < nI nc := ⟨nI_le (a := 0) (Nat.zero_le _) (by omega), Int32.not_le.mp (nI_ge hcl (by omega))⟩
  refine v_aload_n dX13_run_0 rfl 0 rfl ?_
  refine v_aload_n dX13_run_1 rfl 0 rfl ?_
  refine v_iload_n dX13_run_2 rfl 1 rfl ?_
  refine v_callV (M' := mX13_isRule) (n := 1) (As := [_]) (ci := 11) (r := (RX13, TX13, 71)) gX13_run_X13_isRule rfl (by decide +kernel) ⟨(Nat.le_of_ble_eq_true rfl), (Nat.le_of_ble_eq_true rfl)⟩ rfl rfl dX13_run_3 rfl ⟨(Nat.le_of_ble_eq_true rfl), (Nat.le_of_ble_eq_true rfl)⟩ (Nat.le_of_ble_eq_true rfl) (by repeat (first | with_reducible assumption | (with_reducible refine sv_us.trans ?_; exact rfl) | with_reducible refine (sv_un (by omega)).trans ?_)) rfl (m_isRule G hb _ (b + 220) fs0 hlen hm9 (nI ri) (nI nr) h18) (fun v9 h9 y9 hq => v_pq hq ?_)
  refine v_if_eq (tgt := 17) dX13_run_6 (by decide) (fun c_6 => ?_) (fun c_6 => ?_)
  · rw [if_pos hr0] at c_6; exact absurd c_6 (by decide)
  · refine v_aload_n dX13_run_9 rfl 0 rfl ?_
    refine v_iload_n dX13_run_10 rfl 2 rfl ?_
    refine v_callV (M' := mX13_isCell) (n := 1) (As := [_]) (ci := 11) (r := (RX13, TX13, 71)) gX13_run_X13_isCell rfl (by decide +kernel) ⟨(Nat.le_of_ble_eq_true rfl), (Nat.le_of_ble_eq_true rfl)⟩ rfl rfl dX13_run_11 rfl ⟨(Nat.le_of_ble_eq_true rfl), (Nat.le_of_ble_eq_true rfl)⟩ (Nat.le_of_ble_eq_true rfl) (by repeat (first | with_reducible assumption | (with_reducible refine sv_us.trans ?_; exact rfl) | with_reducible refine (sv_un (by omega)).trans ?_)) rfl (m_isCell G hb _ (b + 220) fs0 hlen hm9 (nI cl) (nI nc) hq0.f_cells) (fun v9 h9 y9 hq => v_pq hq ?_)
    refine v_if_ne (tgt := 21) dX13_run_14 (by decide) (fun c_14 => ?_) (fun c_14 => ?_)
    · refine v_iconst (v := 0) dX13_run_21 (by decide) ?_
      refine v_putf 0 (fs' := _) (ci := 11) (C := RX13) (T := TX13) (N := 71) (ty := .int) rfl iwX13_run_X13 tyX13 tyX13_ok nmX13 (Nat.le_of_ble_eq_true rfl) (by decide +kernel) rfl rfl dX13_run_22 rfl rfl (by repeat (first | with_reducible assumption | (with_reducible refine sv_us.trans ?_; exact rfl) | with_reducible refine (sv_un (by omega)).trans ?_)) (by first | omega | (simp only [List.length_set]; omega)) rfl ?_
      refine v_aload_n dX13_run_25 rfl 0 rfl ?_
      refine v_getf 0 (ci := 11) (C := RX13) (T := TX13) (N := 71) rfl iwX13_run_X13 (Nat.le_of_ble_eq_true rfl) (by decide +kernel) dX13_run_26 (by repeat (first | with_reducible assumption | (with_reducible refine sv_us.trans ?_; exact rfl) | with_reducible refine (sv_un (by omega)).trans ?_)) (by repeat (first | with_reducible assumption | (with_reducible refine (sv_ls (by first | omega | (simp only [List.length_set]; omega))).trans ?_; exact rfl) | with_reducible refine (List.getElem?_set_ne (by decide)).trans ?_)) ?_
      refine v_if_ne (tgt := 63) dX13_run_29 (by decide) (fun c_29 => ?_) (fun c_29 => ?_)
      · exact absurd rfl c_29
      · refine v_aload_n dX13_run_32 rfl 0 rfl ?_
        have hqA := hq0.to (S := (0 :: [28, 29, 36, 41, 52, 53, 54, 55, 56, 57, 58, 59, 60, 61, 62])) (fs1 := (fs0.set 0 (.int 0))) (by rw [List.length_set]; exact hq0.1) (fsE.rf.st (by decide)) (by decide)
        have EA : fsE (0 :: [28, 29, 36, 41, 52, 53, 54, 55, 56, 57, 58, 59, 60, 61, 62]) fs0 (fs0.set 0 (.int 0)) := fsE.rf.st (by decide)
        refine v_aload_n dX13_run_33 rfl 0 rfl ?_
        refine v_iload_n dX13_run_34 rfl 2 rfl ?_
        refine v_callV (M' := mX13_sizeOf) (n := 1) (As := [_]) (ci := 11) (r := (RX13, TX13, 71)) gX13_run_X13_sizeOf rfl (by decide +kernel) ⟨(Nat.le_of_ble_eq_true rfl), (Nat.le_of_ble_eq_true rfl)⟩ rfl rfl dX13_run_35 rfl ⟨(Nat.le_of_ble_eq_true rfl), (Nat.le_of_ble_eq_true rfl)⟩ (Nat.le_of_ble_eq_true rfl) (by repeat (first | with_reducible assumption | (with_reducible refine sv_us.trans ?_; exact rfl) | with_reducible refine (sv_un (by omega)).trans ?_)) rfl (m_sizeOfL G _ b nc np pl R hm p3 p4 sz ly vo mp X Y _ (fs0.set 0 (.int 0)) hqA sv_us (MY.kp (fun a p1 p2 => (sv_un (by omega)))) hXY hR rk hr hrn cl hcl ⟨_, (sv_un (by omega)).trans s48⟩) (fun v9 h1 z1 hq9 => ?_)
        obtain ⟨rfl, rfl, SZ, u1⟩ := hq9
        have B1 : ∀ a, a ≠ b + 220 → a ≠ b + 248 → h1 a = hb a := fun a p1 p2 => (u1 a p2).trans (sv_un p1)
        have hm1 := (u1 (b + 220) (by omega)).trans sv_us
        have SC1 : msc_ G h1 b n0 pg0 cc0 := (by obtain ⟨fz, z8, z9⟩ := SZ; exact ⟨⟨_, (B1 _ (by omega) (by omega)).trans s44⟩, ⟨_, (B1 _ (by omega) (by omega)).trans s45⟩, ⟨_, (B1 _ (by omega) (by omega)).trans s46⟩, ⟨_, (B1 _ (by omega) (by omega)).trans s47⟩, ⟨fz, z8⟩, sL.kp (fun a p1 p2 => B1 a (by omega) (by omega))⟩)
        refine v_ldc2 (v := (100)) (by decide +kernel) dX13_run_38 ?_
        refine v_lcmp_gt (tgt := 55) dX13_run_41 dX13_run_42 (by decide) (fun c_42 => ?_) (fun c_42 => ?_)
        · refine v_iconst (v := 2) dX13_run_55 (by decide) ?_
          refine v_goto (tgt := 60) dX13_run_56 (by decide) ?_
          refine v_putf 0 (fs' := _) (ci := 11) (C := RX13) (T := TX13) (N := 71) (ty := .int) rfl iwX13_run_X13 tyX13 tyX13_ok nmX13 (Nat.le_of_ble_eq_true rfl) (by decide +kernel) rfl rfl dX13_run_60 rfl rfl (by repeat (first | with_reducible assumption | (with_reducible refine sv_us.trans ?_; exact rfl) | with_reducible refine (sv_un (by omega)).trans ?_)) (by first | omega | (simp only [List.length_set]; omega)) rfl ?_
          refine v_aload_n dX13_run_63 rfl 0 rfl ?_
          refine v_getf 0 (ci := 11) (C := RX13) (T := TX13) (N := 71) rfl iwX13_run_X13 (Nat.le_of_ble_eq_true rfl) (by decide +kernel) dX13_run_64 (by repeat (first | with_reducible assumption | (with_reducible refine sv_us.trans ?_; exact rfl) | with_reducible refine (sv_un (by omega)).trans ?_)) (by repeat (first | with_reducible assumption | (with_reducible refine (sv_ls (by first | omega | (simp only [List.length_set]; omega))).trans ?_; exact rfl) | with_reducible refine (List.getElem?_set_ne (by decide)).trans ?_)) ?_
          refine v_if_le (tgt := 72) dX13_run_67 (by decide) (fun c_67 => ?_) (fun c_67 => ?_)
          · first
              | exact absurd (show (2 : Int32) ≤ 0 from c_67) (by decide)
              | (refine v_sub (L' := [(3, _), (2, _), (1, _), (0, _)]) [3, 2, 1, 0] rfl ?_
                 have c9 := c_52
                 have sm : (fiQ fv kd l1 l2 x3 x4 x5 x6 nc np pl R hm p3 p4 ly vo mp sz X Y g cl).length ≤ 1500 ∧ E1 = (fiQ fv kd l1 l2 x3 x4 x5 x6 nc np pl R hm p3 p4 ly vo mp sz X Y g cl) := (by rcases dB with ⟨q1, q2, q3⟩ | ⟨q1, q3⟩; exact ⟨q1, q2⟩; exact absurd q3 c9)
                 rw [sm.2] at d9
                 refine t_ru72 G _ _ b nc np pl _ (fs2.set 0 (.int 0)) (hq2.to (S := (0 :: [28, 29, 36, 41, 52, 53, 54, 55, 56, 57, 58, 59, 60, 61, 62])) (by rw [List.length_set]; exact hlen2) (fsE.rf.st (by decide)) (by decide)) sv_us ri cl fv ((List.getElem?_set_ne (by decide)).trans d5) _ sm.1 (d9.kp (sv_un (by omega)) (List.getElem?_set_ne (by decide)) (List.getElem?_set_ne (by decide))) nw hnw ((List.getElem?_set_ne (by decide)).trans ((E2 33 (by decide)).trans h33)) ((List.getElem?_set_ne (by decide)).trans d4) wr wf ((sv_un (by omega)).trans ((B2 _ (by omega) (by omega) (by omega)).trans w42)) hwr ⟨_, (sv_un (by omega)).trans ((B2 _ (by omega) (by omega) (by omega)).trans s58)⟩ (fun h3 ix gt3 v1 v2 v3 v4 v5 v6 v7 => ?_)
                 refine ⟨rfl, _, v1, by rw [List.length_set, List.length_set, List.length_set, List.length_set]; exact hlen2, fun a p1 p2 p3_ => (v7 a p1 p2 (by omega)).trans ((sv_un p1).trans (B2 a p1 p2 (by omega))), (by obtain ⟨uf, q⟩ := d7; exact ⟨uf, (v7 _ (by omega) (by omega) (by omega)).trans ((sv_un (by omega)).trans q)⟩), d8.kp (fun a p1 p2 => (v7 a (by omega) (by omega) (by omega)).trans (sv_un (by omega))), v6, Or.inr ⟨n100, sm.1, ix, gt3, rfl, ?_, ?_, ?_, ?_, ?_, v2, v3, v4, v5⟩⟩
                 · exact (List.getElem?_set_ne (by decide)).trans ((List.getElem?_set_ne (by decide)).trans ((List.getElem?_set_ne (by decide)).trans (sv_ls (by omega))))
                 · exact (List.getElem?_set_ne (by decide)).trans ((List.getElem?_set_ne (by decide)).trans (sv_ls (by rw [List.length_set]; omega)))
                 · exact (List.getElem?_set_ne (by decide)).trans (sv_ls (by rw [List.length_set, List.length_set]; omega))
                 · exact sv_ls (by rw [List.length_set, List.length_set, List.length_set]; omega)
                 · exact ((((E2.up (T := (0 :: 30 :: 31 :: 32 :: [28, 29, 36, 41, 52, 53, 54, 55, 56, 57, 58, 59, 60, 61, 62])) (by decide)).st (by decide)).st (by decide)).st (by decide)).st (by decide))
          · refine v_iconst (v := 0) dX13_run_70 (by decide) ?_
            exact v_iret rfl dX13_run_71 (Nat.le_of_ble_eq_true rfl) (Nat.le_of_ble_eq_true rfl) rfl (by
                  first
                    | (have c9 := c_52
                       have big : 1500 < (fiQ fv kd l1 l2 x3 x4 x5 x6 nc np pl R hm p3 p4 ly vo mp sz X Y g cl).length := (by rcases dB with ⟨q1, q2, q3⟩ | ⟨q1, q3⟩; exact absurd c9 (by rw [q3]; decide); exact q1)
                       obtain ⟨_, _, gt1, g41, _, g18⟩ := d9
                       exact ⟨rfl, _, sv_us, by rw [List.length_set]; exact hlen2, fun a p1 p2 p3_ => (sv_un p1).trans (B2 a p1 p2 (by omega)), (by obtain ⟨uf, q⟩ := d7; exact ⟨uf, (sv_un (by omega)).trans q⟩), d8.kp (fun a p1 p2 => sv_un (by omega)), ⟨_, (sv_un (by omega)).trans ((B2 _ (by omega) (by omega) (by omega)).trans s58)⟩, Or.inl ⟨fun _ => big, rfl, sv_ls (by omega), E2.st (by decide), gt1, (sv_un (by omega)).trans g41, g18⟩⟩)
                    | (have big : ¬ (oc_n np pl R hm p3 p4 16 cl) ≤ 100 := lN_101 c_42
                       exact ⟨rfl, _, sv_us, by rw [List.length_set, List.length_set]; exact hlen, fun a p1 p2 p3_ => (sv_un p1).trans (B1 a p1 (by omega)), ⟨_, (sv_un (by omega)).trans ((B1 _ (by omega) (by omega)).trans sU)⟩, SC1.kp (fun a p1 p2 => sv_un (by omega)), ⟨_, (sv_un (by omega)).trans ((B1 _ (by omega) (by omega)).trans s58)⟩, Or.inl ⟨fun q => absurd q big, rfl, sv_ls (by rw [List.length_set]; omega), EA.st (by decide), gt, (sv_un (by omega)).trans ((B1 _ (by omega) (by omega)).trans t41), hgu⟩⟩))
        · refine v_aload_n dX13_run_45 rfl 0 rfl ?_
          have n100 : (oc_n np pl R hm p3 p4 16 cl) ≤ 100 := lN_100 c_42
          refine v_iload_n dX13_run_46 rfl 1 rfl ?_
          refine v_iload_n dX13_run_47 rfl 2 rfl ?_
          refine v_iload_n dX13_run_48 rfl 3 rfl ?_
          refine v_callV (M' := mX13_find) (n := 3) (As := [_, _, _]) (ci := 11) (r := (RX13, TX13, 71)) gX13_run_X13_find rfl (by decide +kernel) ⟨(Nat.le_of_ble_eq_true rfl), (Nat.le_of_ble_eq_true rfl)⟩ rfl rfl dX13_run_49 rfl ⟨(Nat.le_of_ble_eq_true rfl), (Nat.le_of_ble_eq_true rfl)⟩ (Nat.le_of_ble_eq_true rfl) (by repeat (first | with_reducible assumption | (with_reducible refine sv_us.trans ?_; exact rfl) | with_reducible refine (sv_un (by omega)).trans ?_)) rfl (m_find G _ b nc np pl R hm p3 p4 sz ly vo mp X Y h1 (fs0.set 0 (.int 0)) hqA (MY.kp (fun a p1 p2 => B1 a (by omega) (by omega))) hXY hR rk hr hrn OKH ri kd l1 l2 x3 x4 x5 x6 (RU.kp (fun a p1 p2 => B1 a (by omega) (by omega))) hen n0 pg0 cc0 cl hcl (hN1 n100) fv hbw g hg mo ((List.getElem?_set_ne (by decide)).trans h60) gt ((B1 _ (by omega) (by omega)).trans t41) hgu ⟨_, (B1 _ (by omega) (by omega)).trans sU⟩ SC1 hm1) (fun v9 h2 z2 hq9 => ?_)
          obtain ⟨rfl, fs2, d1, d2, d3, d4, d5, d6, d7, d8, E1, d9, dA⟩ := hq9
          have hq2 := hqA.to d2 d3 (by decide)
          have hlen2 : fs2.length = 71 := d2
          have E2 : fsE (0 :: [28, 29, 36, 41, 52, 53, 54, 55, 56, 57, 58, 59, 60, 61, 62]) fs0 fs2 := EA.tr (d3.up (by decide))
          have B2 : ∀ a, a ≠ b + 220 → a ≠ b + 241 → ¬ (b + 243 ≤ a ∧ a < b + 258) → h2 a = hb a := fun a p1 p2 p3_ => (d6 a p1 p2 p3_).trans (B1 a p1 (by omega))
          obtain ⟨v8, hv8, dB⟩ : ∃ v8 : Int32, v9 = some (.int v8) ∧ (((fiQ fv kd l1 l2 x3 x4 x5 x6 nc np pl R hm p3 p4 ly vo mp sz X Y g cl).length ≤ 1500 ∧ E1 = (fiQ fv kd l1 l2 x3 x4 x5 x6 nc np pl R hm p3 p4 ly vo mp sz X Y g cl) ∧ v8 = 1) ∨ (1500 < (fiQ fv kd l1 l2 x3 x4 x5 x6 nc np pl R hm p3 p4 ly vo mp sz X Y g cl).length ∧ v8 = 0)) := (by rcases dA with ⟨q1, q2, q3⟩ | ⟨q1, q3⟩; exact ⟨1, q3, Or.inl ⟨q1, q2, rfl⟩⟩; exact ⟨0, q3, Or.inr ⟨q1, rfl⟩⟩)
          subst hv8
          refine v_if_ne (tgt := 59) dX13_run_52 (by decide) (fun c_52 => ?_) (fun c_52 => ?_)
          · refine v_iconst (v := 0) dX13_run_59 (by decide) ?_
            refine v_putf 0 (fs' := _) (ci := 11) (C := RX13) (T := TX13) (N := 71) (ty := .int) rfl iwX13_run_X13 tyX13 tyX13_ok nmX13 (Nat.le_of_ble_eq_true rfl) (by decide +kernel) rfl rfl dX13_run_60 rfl rfl (by repeat (first | with_reducible assumption | (with_reducible refine sv_us.trans ?_; exact rfl) | with_reducible refine (sv_un (by omega)).trans ?_)) (by first | omega | (simp only [List.length_set]; omega)) rfl ?_
            refine v_aload_n dX13_run_63 rfl 0 rfl ?_
            refine v_getf 0 (ci := 11) (C := RX13) (T := TX13) (N := 71) rfl iwX13_run_X13 (Nat.le_of_ble_eq_true rfl) (by decide +kernel) dX13_run_64 (by repeat (first | with_reducible assumption | (with_reducible refine sv_us.trans ?_; exact rfl) | with_reducible refine (sv_un (by omega)).trans ?_)) (by repeat (first | with_reducible assumption | (with_reducible refine (sv_ls (by first | omega | (simp only [List.length_set]; omega))).trans ?_; exact rfl) | with_reducible refine (List.getElem?_set_ne (by decide)).trans ?_)) ?_
            refine v_if_le (tgt := 72) dX13_run_67 (by decide) (fun c_67 => ?_) (fun c_67 => ?_)
            · first
                | exact absurd (show (2 : Int32) ≤ 0 from c_67) (by decide)
                | (refine v_sub (L' := [(3, _), (2, _), (1, _), (0, _)]) [3, 2, 1, 0] rfl ?_
                   have c9 := c_52
                   have sm : (fiQ fv kd l1 l2 x3 x4 x5 x6 nc np pl R hm p3 p4 ly vo mp sz X Y g cl).length ≤ 1500 ∧ E1 = (fiQ fv kd l1 l2 x3 x4 x5 x6 nc np pl R hm p3 p4 ly vo mp sz X Y g cl) := (by rcases dB with ⟨q1, q2, q3⟩ | ⟨q1, q3⟩; exact ⟨q1, q2⟩; exact absurd q3 c9)
                   rw [sm.2] at d9
                   refine t_ru72 G _ _ b nc np pl _ (fs2.set 0 (.int 0)) (hq2.to (S := (0 :: [28, 29, 36, 41, 52, 53, 54, 55, 56, 57, 58, 59, 60, 61, 62])) (by rw [List.length_set]; exact hlen2) (fsE.rf.st (by decide)) (by decide)) sv_us ri cl fv ((List.getElem?_set_ne (by decide)).trans d5) _ sm.1 (d9.kp (sv_un (by omega)) (List.getElem?_set_ne (by decide)) (List.getElem?_set_ne (by decide))) nw hnw ((List.getElem?_set_ne (by decide)).trans ((E2 33 (by decide)).trans h33)) ((List.getElem?_set_ne (by decide)).trans d4) wr wf ((sv_un (by omega)).trans ((B2 _ (by omega) (by omega) (by omega)).trans w42)) hwr ⟨_, (sv_un (by omega)).trans ((B2 _ (by omega) (by omega) (by omega)).trans s58)⟩ (fun h3 ix gt3 v1 v2 v3 v4 v5 v6 v7 => ?_)
                   refine ⟨rfl, _, v1, by rw [List.length_set, List.length_set, List.length_set, List.length_set]; exact hlen2, fun a p1 p2 p3_ => (v7 a p1 p2 (by omega)).trans ((sv_un p1).trans (B2 a p1 p2 (by omega))), (by obtain ⟨uf, q⟩ := d7; exact ⟨uf, (v7 _ (by omega) (by omega) (by omega)).trans ((sv_un (by omega)).trans q)⟩), d8.kp (fun a p1 p2 => (v7 a (by omega) (by omega) (by omega)).trans (sv_un (by omega))), v6, Or.inr ⟨n100, sm.1, ix, gt3, rfl, ?_, ?_, ?_, ?_, ?_, v2, v3, v4, v5⟩⟩
                   · exact (List.getElem?_set_ne (by decide)).trans ((List.getElem?_set_ne (by decide)).trans ((List.getElem?_set_ne (by decide)).trans (sv_ls (by omega))))
                   · exact (List.getElem?_set_ne (by decide)).trans ((List.getElem?_set_ne (by decide)).trans (sv_ls (by rw [List.length_set]; omega)))
                   · exact (List.getElem?_set_ne (by decide)).trans (sv_ls (by rw [List.length_set, List.length_set]; omega))
                   · exact sv_ls (by rw [List.length_set, List.length_set, List.length_set]; omega)
                   · exact ((((E2.up (T := (0 :: 30 :: 31 :: 32 :: [28, 29, 36, 41, 52, 53, 54, 55, 56, 57, 58, 59, 60, 61, 62])) (by decide)).st (by decide)).st (by decide)).st (by decide)).st (by decide))
            · refine v_iconst (v := 0) dX13_run_70 (by decide) ?_
              exact v_iret rfl dX13_run_71 (Nat.le_of_ble_eq_true rfl) (Nat.le_of_ble_eq_true rfl) rfl (by
                    first
                      | (have c9 := c_52
                         have big : 1500 < (fiQ fv kd l1 l2 x3 x4 x5 x6 nc np pl R hm p3 p4 ly vo mp sz X Y g cl).length := (by rcases dB with ⟨q1, q2, q3⟩ | ⟨q1, q3⟩; exact absurd c9 (by rw [q3]; decide); exact q1)
                         obtain ⟨_, _, gt1, g41, _, g18⟩ := d9
                         exact ⟨rfl, _, sv_us, by rw [List.length_set]; exact hlen2, fun a p1 p2 p3_ => (sv_un p1).trans (B2 a p1 p2 (by omega)), (by obtain ⟨uf, q⟩ := d7; exact ⟨uf, (sv_un (by omega)).trans q⟩), d8.kp (fun a p1 p2 => sv_un (by omega)), ⟨_, (sv_un (by omega)).trans ((B2 _ (by omega) (by omega) (by omega)).trans s58)⟩, Or.inl ⟨fun _ => big, rfl, sv_ls (by omega), E2.st (by decide), gt1, (sv_un (by omega)).trans g41, g18⟩⟩)
                      | (have big : ¬ (oc_n np pl R hm p3 p4 16 cl) ≤ 100 := lN_101 c_42
                         exact ⟨rfl, _, sv_us, by rw [List.length_set, List.length_set]; exact hlen, fun a p1 p2 p3_ => (sv_un p1).trans (B1 a p1 (by omega)), ⟨_, (sv_un (by omega)).trans ((B1 _ (by omega) (by omega)).trans sU)⟩, SC1.kp (fun a p1 p2 => sv_un (by omega)), ⟨_, (sv_un (by omega)).trans ((B1 _ (by omega) (by omega)).trans s58)⟩, Or.inl ⟨fun q => absurd q big, rfl, sv_ls (by rw [List.length_set]; omega), EA.st (by decide), gt, (sv_un (by omega)).trans ((B1 _ (by omega) (by omega)).trans t41), hgu⟩⟩))
          · refine v_iconst (v := 2) dX13_run_55 (by decide) ?_
            refine v_goto (tgt := 60) dX13_run_56 (by decide) ?_
            refine v_putf 0 (fs' := _) (ci := 11) (C := RX13) (T := TX13) (N := 71) (ty := .int) rfl iwX13_run_X13 tyX13 tyX13_ok nmX13 (Nat.le_of_ble_eq_true rfl) (by decide +kernel) rfl rfl dX13_run_60 rfl rfl (by repeat (first | with_reducible assumption | (with_reducible refine sv_us.trans ?_; exact rfl) | with_reducible refine (sv_un (by omega)).trans ?_)) (by first | omega | (simp only [List.length_set]; omega)) rfl ?_
            refine v_aload_n dX13_run_63 rfl 0 rfl ?_
            refine v_getf 0 (ci := 11) (C := RX13) (T := TX13) (N := 71) rfl iwX13_run_X13 (Nat.le_of_ble_eq_true rfl) (by decide +kernel) dX13_run_64 (by repeat (first | with_reducible assumption | (with_reducible refine sv_us.trans ?_; exact rfl) | with_reducible refine (sv_un (by omega)).trans ?_)) (by repeat (first | with_reducible assumption | (with_reducible refine (sv_ls (by first | omega | (simp only [List.length_set]; omega))).trans ?_; exact rfl) | with_reducible refine (List.getElem?_set_ne (by decide)).trans ?_)) ?_
            refine v_if_le (tgt := 72) dX13_run_67 (by decide) (fun c_67 => ?_) (fun c_67 => ?_)
            · first
                | exact absurd (show (2 : Int32) ≤ 0 from c_67) (by decide)
                | (refine v_sub (L' := [(3, _), (2, _), (1, _), (0, _)]) [3, 2, 1, 0] rfl ?_
                   have c9 := c_52
                   have sm : (fiQ fv kd l1 l2 x3 x4 x5 x6 nc np pl R hm p3 p4 ly vo mp sz X Y g cl).length ≤ 1500 ∧ E1 = (fiQ fv kd l1 l2 x3 x4 x5 x6 nc np pl R hm p3 p4 ly vo mp sz X Y g cl) := (by rcases dB with ⟨q1, q2, q3⟩ | ⟨q1, q3⟩; exact ⟨q1, q2⟩; exact absurd q3 c9)
                   rw [sm.2] at d9
                   refine t_ru72 G _ _ b nc np pl _ (fs2.set 0 (.int 0)) (hq2.to (S := (0 :: [28, 29, 36, 41, 52, 53, 54, 55, 56, 57, 58, 59, 60, 61, 62])) (by rw [List.length_set]; exact hlen2) (fsE.rf.st (by decide)) (by decide)) sv_us ri cl fv ((List.getElem?_set_ne (by decide)).trans d5) _ sm.1 (d9.kp (sv_un (by omega)) (List.getElem?_set_ne (by decide)) (List.getElem?_set_ne (by decide))) nw hnw ((List.getElem?_set_ne (by decide)).trans ((E2 33 (by decide)).trans h33)) ((List.getElem?_set_ne (by decide)).trans d4) wr wf ((sv_un (by omega)).trans ((B2 _ (by omega) (by omega) (by omega)).trans w42)) hwr ⟨_, (sv_un (by omega)).trans ((B2 _ (by omega) (by omega) (by omega)).trans s58)⟩ (fun h3 ix gt3 v1 v2 v3 v4 v5 v6 v7 => ?_)
                   refine ⟨rfl, _, v1, by rw [List.length_set, List.length_set, List.length_set, List.length_set]; exact hlen2, fun a p1 p2 p3_ => (v7 a p1 p2 (by omega)).trans ((sv_un p1).trans (B2 a p1 p2 (by omega))), (by obtain ⟨uf, q⟩ := d7; exact ⟨uf, (v7 _ (by omega) (by omega) (by omega)).trans ((sv_un (by omega)).trans q)⟩), d8.kp (fun a p1 p2 => (v7 a (by omega) (by omega) (by omega)).trans (sv_un (by omega))), v6, Or.inr ⟨n100, sm.1, ix, gt3, rfl, ?_, ?_, ?_, ?_, ?_, v2, v3, v4, v5⟩⟩
                   · exact (List.getElem?_set_ne (by decide)).trans ((List.getElem?_set_ne (by decide)).trans ((List.getElem?_set_ne (by decide)).trans (sv_ls (by omega))))
                   · exact (List.getElem?_set_ne (by decide)).trans ((List.getElem?_set_ne (by decide)).trans (sv_ls (by rw [List.length_set]; omega)))
                   · exact (List.getElem?_set_ne (by decide)).trans (sv_ls (by rw [List.length_set, List.length_set]; omega))
                   · exact sv_ls (by rw [List.length_set, List.length_set, List.length_set]; omega)
                   · exact ((((E2.up (T := (0 :: 30 :: 31 :: 32 :: [28, 29, 36, 41, 52, 53, 54, 55, 56, 57, 58, 59, 60, 61, 62])) (by decide)).st (by decide)).st (by decide)).st (by decide)).st (by decide))
            · refine v_iconst (v := 0) dX13_run_70 (by decide) ?_
              exact v_iret rfl dX13_run_71 (Nat.le_of_ble_eq_true rfl) (Nat.le_of_ble_eq_true rfl) rfl (by
                    first
                      | (have c9 := c_52
                         have big : 1500 < (fiQ fv kd l1 l2 x3 x4 x5 x6 nc np pl R hm p3 p4 ly vo mp sz X Y g cl).length := (by rcases dB with ⟨q1, q2, q3⟩ | ⟨q1, q3⟩; exact absurd c9 (by rw [q3]; decide); exact q1)
                         obtain ⟨_, _, gt1, g41, _, g18⟩ := d9
                         exact ⟨rfl, _, sv_us, by rw [List.length_set]; exact hlen2, fun a p1 p2 p3_ => (sv_un p1).trans (B2 a p1 p2 (by omega)), (by obtain ⟨uf, q⟩ := d7; exact ⟨uf, (sv_un (by omega)).trans q⟩), d8.kp (fun a p1 p2 => sv_un (by omega)), ⟨_, (sv_un (by omega)).trans ((B2 _ (by omega) (by omega) (by omega)).trans s58)⟩, Or.inl ⟨fun _ => big, rfl, sv_ls (by omega), E2.st (by decide), gt1, (sv_un (by omega)).trans g41, g18⟩⟩)
                      | (have big : ¬ (oc_n np pl R hm p3 p4 16 cl) ≤ 100 := lN_101 c_42
                         exact ⟨rfl, _, sv_us, by rw [List.length_set, List.length_set]; exact hlen, fun a p1 p2 p3_ => (sv_un p1).trans (B1 a p1 (by omega)), ⟨_, (sv_un (by omega)).trans ((B1 _ (by omega) (by omega)).trans sU)⟩, SC1.kp (fun a p1 p2 => sv_un (by omega)), ⟨_, (sv_un (by omega)).trans ((B1 _ (by omega) (by omega)).trans s58)⟩, Or.inl ⟨fun q => absurd q big, rfl, sv_ls (by rw [List.length_set]; omega), EA.st (by decide), gt, (sv_un (by omega)).trans ((B1 _ (by omega) (by omega)).trans t41), hgu⟩⟩))
    · rw [if_pos hc0] at c_14; exact absurd c_14 (by decide)

end GU
