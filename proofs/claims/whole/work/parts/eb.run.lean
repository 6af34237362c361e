section GU
variable {gu : Nat → Int64}
set_option maxRecDepth 20000 in
theorem ggX13_run_X13_sizeOf_p0 : GoodIn wsX13_run [.code yX13_sizeOf cX13_sizeOf 7 (some .long)] := goodIn_r _ [22] (by decide +kernel) (by decide +kernel)
set_option maxRecDepth 20000 in
theorem ggX13_run_X13_sizeOf_p1 : GoodIn wsX13_run wsX13_sizeOf_r1 := goodIn_r _ [23, 18, 24, 25, 26, 27, 28, 29, 30, 31, 32, 11, 33, 34, 35, 36, 37, 38, 39, 40, 41, 42, 43, 44] (by decide +kernel) (by decide +kernel)
set_option maxRecDepth 20000 in
theorem ggX13_run_X13_sizeOf_p2 : GoodIn wsX13_run wsX13_sizeOf_r2 := goodIn_r _ [45, 46, 47, 48, 49, 50, 51, 52, 53, 54] (by decide +kernel) (by decide +kernel)
theorem ggX13_run_X13_sizeOf_p3 : GoodIn wsX13_run wsX130 := goodIn_sub iwX13_run_X13 (by decide +kernel)
theorem ggX13_run_X13_sizeOf : GoodIn wsX13_run wsX13_sizeOf := goodIn_cn ggX13_run_X13_sizeOf_p0 (goodIn_app (goodIn_app ggX13_run_X13_sizeOf_p1 ggX13_run_X13_sizeOf_p2) ggX13_run_X13_sizeOf_p3)
set_option maxRecDepth 20000 in
theorem gX13_run_X13_sizeOf : GoodIn wsX13_run (wsV RX13 218 RX13 yX13_sizeOf wsX13_sizeOf) := goodIn_app (goodIn_of _ (by decide +kernel)) ggX13_run_X13_sizeOf
set_option maxRecDepth 20000 in
set_option maxRecDepth 20000 in
theorem ggX13_run_X13_find_p0 : GoodIn wsX13_run [.code yX13_find cX13_find 7 (some .boolean)] := goodIn_r _ [58] (by decide +kernel) (by decide +kernel)
set_option maxRecDepth 20000 in
theorem ggX13_run_X13_find_p1 : GoodIn wsX13_run wsX13_find_r1 := goodIn_r _ [59, 60, 61, 62, 63, 18, 64, 19, 20, 21, 11, 22, 23, 24, 25, 26, 27, 28, 29, 30, 31, 32, 33, 34] (by decide +kernel) (by decide +kernel)
set_option maxRecDepth 20000 in
theorem ggX13_run_X13_find_p2 : GoodIn wsX13_run wsX13_find_r2 := goodIn_r _ [35, 36, 37, 38, 39, 40, 41, 42, 43, 44, 45, 46, 47, 48, 49, 50, 51, 52, 53, 54, 65, 66, 67, 68] (by decide +kernel) (by decide +kernel)
set_option maxRecDepth 20000 in
theorem ggX13_run_X13_find_p3 : GoodIn wsX13_run wsX13_find_r3 := goodIn_r _ [69, 70, 71, 72, 73, 74, 75, 76, 77, 78, 79, 80, 81, 82, 83, 84, 85, 86, 87, 88, 89, 90, 91, 2] (by decide +kernel) (by decide +kernel)
set_option maxRecDepth 20000 in
theorem ggX13_run_X13_find_p4 : GoodIn wsX13_run wsX13_find_r4 := goodIn_r _ [92, 93, 94, 95, 96, 97, 98, 99, 100, 101, 102, 103, 104, 105, 106, 107, 108, 109, 110, 111, 112, 113, 114, 115] (by decide +kernel) (by decide +kernel)
set_option maxRecDepth 20000 in
theorem ggX13_run_X13_find_p5 : GoodIn wsX13_run wsX13_find_r5 := goodIn_r _ [116, 117, 118, 119, 120, 121, 122, 123, 124, 125, 126, 127, 128, 129, 130, 131, 132, 133, 134, 135, 136, 137, 138, 139] (by decide +kernel) (by decide +kernel)
set_option maxRecDepth 20000 in
theorem ggX13_run_X13_find_p6 : GoodIn wsX13_run wsX13_find_r6 := goodIn_r _ [140, 141, 142, 4, 143, 144, 145, 146, 147, 148, 149, 150, 151, 152, 153, 154, 155, 156, 157, 158, 159, 160, 161, 162] (by decide +kernel) (by decide +kernel)
set_option maxRecDepth 20000 in
theorem ggX13_run_X13_find_p7 : GoodIn wsX13_run wsX13_find_r7 := goodIn_r _ [163, 164, 165, 166, 167, 168, 169, 170, 171, 172, 173, 174, 175, 176, 177, 178, 179, 180, 181, 182, 183, 184, 185, 186] (by decide +kernel) (by decide +kernel)
set_option maxRecDepth 20000 in
theorem ggX13_run_X13_find_p8 : GoodIn wsX13_run wsX13_find_r8 := goodIn_r _ [187, 188, 189, 190, 191, 192, 193, 194, 195, 196] (by decide +kernel) (by decide +kernel)
theorem ggX13_run_X13_find_p9 : GoodIn wsX13_run wsX130 := goodIn_sub iwX13_run_X13 (by decide +kernel)
theorem ggX13_run_X13_find : GoodIn wsX13_run wsX13_find := goodIn_cn ggX13_run_X13_find_p0 (goodIn_app (goodIn_app ggX13_run_X13_find_p1 (goodIn_app ggX13_run_X13_find_p2 (goodIn_app ggX13_run_X13_find_p3 (goodIn_app ggX13_run_X13_find_p4 (goodIn_app ggX13_run_X13_find_p5 (goodIn_app ggX13_run_X13_find_p6 (goodIn_app ggX13_run_X13_find_p7 ggX13_run_X13_find_p8))))))) ggX13_run_X13_find_p9)
set_option maxRecDepth 20000 in
theorem gX13_run_X13_find : GoodIn wsX13_run (wsV RX13 348 RX13 yX13_find wsX13_find) := goodIn_app (goodIn_of _ (by decide +kernel)) ggX13_run_X13_find
set_option maxRecDepth 20000 in
theorem ggX13_run_X13_arrange : GoodIn wsX13_run wsX13_arrange := goodIn_r _ [200, 61, 5, 60, 201, 202, 203, 11, 204, 205, 206, 59, 4, 207, 208, 209, 210, 211, 212, 213, 214, 215, 216, 217, 218, 219, 220, 221, 222, 223, 224, 225, 226, 227, 228, 229, 230, 231, 232, 233, 234, 235, 236, 237, 238, 239, 240, 241, 242, 243, 244, 245, 246, 247, 248, 249, 250, 251, 252, 253, 254, 255, 256, 257, 258, 259, 260, 261, 262, 263, 264, 265, 266, 267, 268, 269, 270, 271, 272, 273, 274, 275, 276, 277, 278, 279, 280, 281] (by decide +kernel) (by decide +kernel)
set_option maxRecDepth 20000 in
theorem gX13_run_X13_arrange : GoodIn wsX13_run (wsV RX13 352 RX13 yX13_arrange wsX13_arrange) := goodIn_app (goodIn_of _ (by decide +kernel)) ggX13_run_X13_arrange

set_option maxHeartbeats 4000000 in
set_option maxRecDepth 100000 in
theorem l_ruI (G : sv_G) (Qr : Option Value → sv_h → Nat → Prop) (z b nc np pl : Nat) (hb : sv_h) (fs : List Value) (hqf : mfq_ b nc np pl fs) (ri cl : Nat) (fv : Int32) (hfv : fv = 0 ∨ fv = 1) (kx : List Nat) (hk15 : kx.length ≤ 1500) (hkx : ∀ x, x ∈ kx → x < 1500) (ord : Nat → Int32) (A58 : ab_I G hb (b + 258) 1500 ord) (hord : ∀ j, j < kx.length → ord j = nI (kx.getD j 0)) (g0 : Nat → Int64) (hm0 : hb (b + 220) = some (.inr (11, fs))) (h30 : fs[30]? = some (.int (nI kx.length))) (k : Nat) (hk1 : k < kx.length) (hk : ∀ (h : sv_h) (gt : Nat → Int64), ab_J G h (b + 241) 36048 gt → (∀ a, a < 18000 → gt a = g0 a) → (∀ k9 j9, k9 < (k + 1) → j9 < 12 → gt (18024 + (12 * k9 + j9)) = g0 (12 * kx.getD k9 0 + j9)) → (∀ a, a ≠ b + 241 → h a = hb a) → V G mX13_run (sv_MQ G mX13_run Qr) 143 [(4, .int (nI k)), (3, .int fv), (2, .int (nI cl)), (1, .int (nI ri)), (0, .ref (b + 220))] [] h z 0 0) : ∀ (e i : Nat) (h : sv_h) (gt : Nat → Int64), i + e = 12 → ab_J G h (b + 241) 36048 gt → (∀ a, a < 18000 → gt a = g0 a) → (∀ k9 j9, k9 < k → j9 < 12 → gt (18024 + (12 * k9 + j9)) = g0 (12 * kx.getD k9 0 + j9)) → (∀ j9, j9 < i → gt (18024 + (12 * k + j9)) = g0 (12 * kx.getD k 0 + j9)) → (∀ a, a ≠ b + 241 → h a = hb a) → V G mX13_run (sv_MQ G mX13_run Qr) 95 [(5, .int (nI i)), (4, .int (nI k)), (3, .int fv), (2, .int (nI cl)), (1, .int (nI ri)), (0, .ref (b + 220))] [] h z 0 0 := by
  intro e
  induction e with
  | zero =>
    intro i h gt hie a1 a2 a3 a4 fr
    have hlen : fs.length = 71 := hqf.1
    have hm9 := (fr (b + 220) (by omega)).trans hm0
    have w258 : ab_I G h (b + 258) 1500 ord := (fr _ (by omega)).trans A58
    have f_latest := h30
    have f_told := hqf.f_told
    have f_order := hqf.f_order
    have e9 : i = 12 := by omega
    subst e9
    refine v_iload dX13_run_95 0 rfl ?_
    refine v_bipush (v := 12) dX13_run_97 (by decide) ?_
    refine v_icmp_ge (tgt := 143) dX13_run_99 (by decide) (fun c_99 => ?_) (fun c_99 => ?_)
    · refine v_sub (L' := [(4, _), (3, _), (2, _), (1, _), (0, _)]) [1, 2, 3, 4, 5] rfl ?_
      refine hk h gt a1 a2 (fun k9 j9 q1 q2 => ?_) fr
      by_cases e9 : k9 = k
      · subst e9; exact a4 j9 q2
      · exact a3 k9 j9 (by omega) q2
    · exact absurd (by decide) c_99
  | succ e ih =>
    intro i h gt hie a1 a2 a3 a4 fr
    have hlen : fs.length = 71 := hqf.1
    have hm9 := (fr (b + 220) (by omega)).trans hm0
    have w258 : ab_I G h (b + 258) 1500 ord := (fr _ (by omega)).trans A58
    have f_latest := h30
    have f_told := hqf.f_told
    have f_order := hqf.f_order
    have hi : i < 12 := by omega
    have hx := hkx _ (getD_mem (l := kx) (i := k) 0 hk1)
    refine v_iload dX13_run_95 0 rfl ?_
    refine v_bipush (v := 12) dX13_run_97 (by decide) ?_
    refine v_icmp_ge (tgt := 143) dX13_run_99 (by decide) (fun c_99 => ?_) (fun c_99 => ?_)
    · exact absurd c_99 (nI_ge (b := 12) hi (by omega))
    · refine v_aload_n dX13_run_102 rfl 5 rfl ?_
      refine v_getf 27 (ci := 11) (C := RX13) (T := TX13) (N := 71) rfl iwX13_run_X13 (Nat.le_of_ble_eq_true rfl) (by decide +kernel) dX13_run_103 (by repeat (first | with_reducible assumption | (with_reducible refine sv_us.trans ?_; exact rfl) | with_reducible refine (sv_un (by omega)).trans ?_)) (by repeat (first | with_reducible assumption | (with_reducible refine (sv_ls (by first | omega | (simp only [List.length_set]; omega))).trans ?_; exact rfl) | with_reducible refine (List.getElem?_set_ne (by decide)).trans ?_)) ?_
      refine v_sipush (v := 18024) dX13_run_106 (by decide) ?_
      refine v_bipush (v := 12) dX13_run_109 (by decide) ?_
      refine v_iload dX13_run_111 1 rfl ?_
      refine v_imul dX13_run_113 ?_
      refine v_iadd dX13_run_114 ?_
      refine v_iload dX13_run_115 0 rfl ?_
      refine v_iadd dX13_run_117 ?_
      refine v_aload_n dX13_run_118 rfl 5 rfl ?_
      refine v_getf 27 (ci := 11) (C := RX13) (T := TX13) (N := 71) rfl iwX13_run_X13 (Nat.le_of_ble_eq_true rfl) (by decide +kernel) dX13_run_119 (by repeat (first | with_reducible assumption | (with_reducible refine sv_us.trans ?_; exact rfl) | with_reducible refine (sv_un (by omega)).trans ?_)) (by repeat (first | with_reducible assumption | (with_reducible refine (sv_ls (by first | omega | (simp only [List.length_set]; omega))).trans ?_; exact rfl) | with_reducible refine (List.getElem?_set_ne (by decide)).trans ?_)) ?_
      refine v_bipush (v := 12) dX13_run_122 (by decide) ?_
      refine v_aload_n dX13_run_124 rfl 5 rfl ?_
      refine v_getf 63 (ci := 11) (C := RX13) (T := TX13) (N := 71) rfl iwX13_run_X13 (Nat.le_of_ble_eq_true rfl) (by decide +kernel) dX13_run_125 (by repeat (first | with_reducible assumption | (with_reducible refine sv_us.trans ?_; exact rfl) | with_reducible refine (sv_un (by omega)).trans ?_)) (by repeat (first | with_reducible assumption | (with_reducible refine (sv_ls (by first | omega | (simp only [List.length_set]; omega))).trans ?_; exact rfl) | with_reducible refine (List.getElem?_set_ne (by decide)).trans ?_)) ?_
      refine v_iload dX13_run_128 1 rfl ?_
      refine v_ialdS (v := nI (kx.getD k 0)) dX13_run_130 (by repeat (first | with_reducible assumption | (with_reducible refine sv_us.trans ?_; exact rfl) | with_reducible refine (sv_un (by omega)).trans ?_)) (vp_in_nI (by omega) (by omega)) (by rw [nI_clamp (by omega)]; exact hord k hk1) ?_
      refine v_imul dX13_run_131 ?_
      refine v_iload dX13_run_132 0 rfl ?_
      refine v_iadd dX13_run_134 ?_
      rw [sv_12m, nI_add]
      refine v_laldS (v := g0 (12 * kx.getD k 0 + i)) dX13_run_135 (by repeat (first | with_reducible assumption | (with_reducible refine sv_us.trans ?_; exact rfl) | with_reducible refine (sv_un (by omega)).trans ?_)) (vp_in_nI (by omega) (by omega)) (by rw [nI_clamp (by omega)]; exact a2 _ (by omega)) ?_
      rw [sv_12m, show (18024 : Int32) = nI 18024 from rfl, nI_add, nI_add]
      refine v_last dX13_run_136 (by repeat (first | with_reducible assumption | (with_reducible refine sv_us.trans ?_; exact rfl) | with_reducible refine (sv_un (by omega)).trans ?_)) (vp_in_nI (by omega) (by omega)) ?_
      refine v_iinc (j := 0) (L' := [(5, _), (4, _), (3, _), (2, _), (1, _), (0, _)]) (v := nI (i + 1)) dX13_run_137 rfl (nI_1 _) (Nat.le_of_ble_eq_true rfl) rfl ?_
      refine v_goto (tgt := 95) dX13_run_140 (by decide) ?_
      refine v_sub (L' := [(5, _), (4, _), (3, _), (2, _), (1, _), (0, _)]) [0, 1, 2, 3, 4, 5] rfl ?_
      rw [nI_clamp (show 18024 + 12 * k + i < 2 ^ 31 by omega)]
      refine ih (i + 1) _ (vp_updL gt (18024 + 12 * k + i) (g0 (12 * kx.getD k 0 + i))) (by omega) sv_us (fun a p => (pk_uLn (by omega)).trans (a2 a p)) (fun k9 j9 q1 q2 => (pk_uLn (by omega)).trans (a3 k9 j9 q1 q2)) (fun j9 q => ?_) (fun a p => (sv_un p).trans (fr a p))
      by_cases e9 : j9 = i
      · subst e9
        rw [show 18024 + (12 * k + j9) = 18024 + 12 * k + j9 by omega]
        exact pk_uLs
      · exact (pk_uLn (by omega)).trans (a4 j9 (by omega))

set_option maxHeartbeats 4000000 in
set_option maxRecDepth 100000 in
theorem l_ruO (G : sv_G) (Qr : Option Value → sv_h → Nat → Prop) (z b nc np pl : Nat) (hb : sv_h) (fs : List Value) (hqf : mfq_ b nc np pl fs) (ri cl : Nat) (fv : Int32) (hfv : fv = 0 ∨ fv = 1) (kx : List Nat) (hk15 : kx.length ≤ 1500) (hkx : ∀ x, x ∈ kx → x < 1500) (ord : Nat → Int32) (A58 : ab_I G hb (b + 258) 1500 ord) (hord : ∀ j, j < kx.length → ord j = nI (kx.getD j 0)) (g0 : Nat → Int64) (hm0 : hb (b + 220) = some (.inr (11, fs))) (h30 : fs[30]? = some (.int (nI kx.length))) (hk : ∀ (h : sv_h) (gt : Nat → Int64), h (b + 220) = some (.inr (11, ((fs.set 31 (.int (nI ri))).set 32 (.int fv)))) → ab_J G h (b + 241) 36048 gt → (∀ k9 j9, k9 < kx.length → j9 < 12 → gt (18024 + (12 * k9 + j9)) = g0 (12 * kx.getD k9 0 + j9)) → (∀ a, a ≠ b + 220 → a ≠ b + 241 → h a = hb a) → Qr (some (.int (nI kx.length))) h z) : ∀ (e k : Nat) (h : sv_h) (gt : Nat → Int64), k + e = kx.length → ab_J G h (b + 241) 36048 gt → (∀ a, a < 18000 → gt a = g0 a) → (∀ k9 j9, k9 < k → j9 < 12 → gt (18024 + (12 * k9 + j9)) = g0 (12 * kx.getD k9 0 + j9)) → (∀ a, a ≠ b + 241 → h a = hb a) → V G mX13_run (sv_MQ G mX13_run Qr) 83 [(4, .int (nI k)), (3, .int fv), (2, .int (nI cl)), (1, .int (nI ri)), (0, .ref (b + 220))] [] h z 0 0 := by
  intro e
  induction e with
  | zero =>
    intro k h gt hke a1 a2 a3 fr
    have hlen : fs.length = 71 := hqf.1
    have hm9 := (fr (b + 220) (by omega)).trans hm0
    have w258 : ab_I G h (b + 258) 1500 ord := (fr _ (by omega)).trans A58
    have f_latest := h30
    have f_told := hqf.f_told
    have f_order := hqf.f_order
    have e9 : k = kx.length := by omega
    subst e9
    refine v_iload dX13_run_83 0 rfl ?_
    refine v_aload_n dX13_run_85 rfl 4 rfl ?_
    refine v_getf 30 (ci := 11) (C := RX13) (T := TX13) (N := 71) rfl iwX13_run_X13 (Nat.le_of_ble_eq_true rfl) (by decide +kernel) dX13_run_86 (by repeat (first | with_reducible assumption | (with_reducible refine sv_us.trans ?_; exact rfl) | with_reducible refine (sv_un (by omega)).trans ?_)) (by repeat (first | with_reducible assumption | (with_reducible refine (sv_ls (by first | omega | (simp only [List.length_set]; omega))).trans ?_; exact rfl) | with_reducible refine (List.getElem?_set_ne (by decide)).trans ?_)) ?_
    refine v_icmp_ge (tgt := 149) dX13_run_89 (by decide) (fun c_89 => ?_) (fun c_89 => ?_)
    · refine v_aload_n dX13_run_149 rfl 4 rfl ?_
      refine v_iload_n dX13_run_150 rfl 3 rfl ?_
      refine v_putf 31 (fs' := _) (ci := 11) (C := RX13) (T := TX13) (N := 71) (ty := .int) rfl iwX13_run_X13 tyX13 tyX13_ok nmX13 (Nat.le_of_ble_eq_true rfl) (by decide +kernel) rfl rfl dX13_run_151 rfl rfl (by repeat (first | with_reducible assumption | (with_reducible refine sv_us.trans ?_; exact rfl) | with_reducible refine (sv_un (by omega)).trans ?_)) (by first | omega | (simp only [List.length_set]; omega)) rfl ?_
      refine v_aload_n dX13_run_154 rfl 4 rfl ?_
      refine v_iload_n dX13_run_155 rfl 1 rfl ?_
      refine v_putf 32 (fs' := _) (ci := 11) (C := RX13) (T := TX13) (N := 71) (ty := .boolean) rfl iwX13_run_X13 tyX13 tyX13_ok nmX13 (Nat.le_of_ble_eq_true rfl) (by decide +kernel) rfl rfl dX13_run_156 (by rcases hfv with q | q <;> (rw [q]; rfl)) (by rcases hfv with q | q <;> (rw [q]; rfl)) (by repeat (first | with_reducible assumption | (with_reducible refine sv_us.trans ?_; exact rfl) | with_reducible refine (sv_un (by omega)).trans ?_)) (by first | omega | (simp only [List.length_set]; omega)) rfl ?_
      refine v_aload_n dX13_run_159 rfl 4 rfl ?_
      refine v_getf 30 (ci := 11) (C := RX13) (T := TX13) (N := 71) rfl iwX13_run_X13 (Nat.le_of_ble_eq_true rfl) (by decide +kernel) dX13_run_160 (by repeat (first | with_reducible assumption | (with_reducible refine sv_us.trans ?_; exact rfl) | with_reducible refine (sv_un (by omega)).trans ?_)) (by repeat (first | with_reducible assumption | (with_reducible refine (sv_ls (by first | omega | (simp only [List.length_set]; omega))).trans ?_; exact rfl) | with_reducible refine (List.getElem?_set_ne (by decide)).trans ?_)) ?_
      exact v_iret rfl dX13_run_163 (Nat.le_of_ble_eq_true rfl) (Nat.le_of_ble_eq_true rfl) rfl (hk _ gt sv_us ((sv_un (by omega)).trans ((sv_un (by omega)).trans a1)) a3 (fun a p1 p2 => (sv_un p1).trans ((sv_un p1).trans (fr a p2))))
    · exact absurd (nI_le (Nat.le_refl _) (by omega)) c_89
  | succ e ih =>
    intro k h gt hke a1 a2 a3 fr
    have hlen : fs.length = 71 := hqf.1
    have hm9 := (fr (b + 220) (by omega)).trans hm0
    have w258 : ab_I G h (b + 258) 1500 ord := (fr _ (by omega)).trans A58
    have f_latest := h30
    have f_told := hqf.f_told
    have f_order := hqf.f_order
    have hk1 : k < kx.length := by omega
    have hkk : ∀ (h : sv_h) (gt : Nat → Int64), ab_J G h (b + 241) 36048 gt → (∀ a, a < 18000 → gt a = g0 a) → (∀ k9 j9, k9 < (k + 1) → j9 < 12 → gt (18024 + (12 * k9 + j9)) = g0 (12 * kx.getD k9 0 + j9)) → (∀ a, a ≠ b + 241 → h a = hb a) → V G mX13_run (sv_MQ G mX13_run Qr) 143 [(4, .int (nI k)), (3, .int fv), (2, .int (nI cl)), (1, .int (nI ri)), (0, .ref (b + 220))] [] h z 0 0 := (by
      intro h2 gt2 v1 v2 v3 v4
      refine v_iinc (j := 0) (L' := [(4, _), (3, _), (2, _), (1, _), (0, _)]) (v := nI (k + 1)) dX13_run_143 rfl (nI_1 _) (Nat.le_of_ble_eq_true rfl) rfl ?_
      refine v_goto (tgt := 83) dX13_run_146 (by decide) ?_
      refine v_sub (L' := [(4, _), (3, _), (2, _), (1, _), (0, _)]) [0, 1, 2, 3, 4] rfl ?_
      exact ih (k + 1) h2 gt2 (by omega) v1 v2 v3 v4)
    refine v_iload dX13_run_83 0 rfl ?_
    refine v_aload_n dX13_run_85 rfl 4 rfl ?_
    refine v_getf 30 (ci := 11) (C := RX13) (T := TX13) (N := 71) rfl iwX13_run_X13 (Nat.le_of_ble_eq_true rfl) (by decide +kernel) dX13_run_86 (by repeat (first | with_reducible assumption | (with_reducible refine sv_us.trans ?_; exact rfl) | with_reducible refine (sv_un (by omega)).trans ?_)) (by repeat (first | with_reducible assumption | (with_reducible refine (sv_ls (by first | omega | (simp only [List.length_set]; omega))).trans ?_; exact rfl) | with_reducible refine (List.getElem?_set_ne (by decide)).trans ?_)) ?_
    refine v_icmp_ge (tgt := 149) dX13_run_89 (by decide) (fun c_89 => ?_) (fun c_89 => ?_)
    · exact absurd c_89 (nI_ge hk1 (by omega))
    · refine v_iconst (v := 0) dX13_run_92 (by decide) ?_
      refine v_istore (L' := [(5, _), (4, _), (3, _), (2, _), (1, _), (0, _)]) dX13_run_93 (Nat.le_of_ble_eq_true rfl) rfl ?_
      refine v_sub (L' := [(5, _), (4, _), (3, _), (2, _), (1, _), (0, _)]) [0, 1, 2, 3, 4, 5] rfl ?_
      exact l_ruI G Qr z b nc np pl hb fs hqf ri cl fv hfv kx hk15 hkx ord A58 hord g0 hm0 h30 k hk1 hkk 12 0 h gt rfl a1 a2 a3 (fun j9 q => absurd q (Nat.not_lt_zero j9)) fr

set_option maxHeartbeats 4000000 in
set_option maxRecDepth 100000 in
theorem t_ru72 (G : sv_G) (Qr : Option Value → sv_h → Nat → Prop) (z b nc np pl : Nat) (hb : sv_h) (fs0 : List Value) (hq0 : mfq_ b nc np pl fs0) (hm0 : hb (b + 220) = some (.inr (11, fs0))) (ri cl : Nat) (fv : Int32) (hfv : fv = 0 ∨ fv = 1) (h59 : fs0[59]? = some (.int fv)) (E : List (List Int64)) (hE15 : E.length ≤ 1500) (T : mT_ gu G hb b fs0 E) (nw : Nat) (hnw : nw ≤ 40) (h33 : fs0[33]? = some (.int (nI nw))) (h58 : fs0[58]? = some (.int (nI ri))) (wr wf : Nat → Int64) (w42 : ab_J G hb (b + 242) 320 wf) (hwr : ∀ k, k < nw → ∀ j, j < 8 → wf (8 * k + ab_wc j) = wr (8 * k + j)) (A58 : ∃ f, ab_I G hb (b + 258) 1500 f) (hk : ∀ (h : sv_h) (ix : List Nat) (gt : Nat → Int64), h (b + 220) = some (.inr (11, (((fs0.set 30 (.int (nI (ddI (decide (fv = 0)) E ix ix.length).length))).set 31 (.int (nI ri))).set 32 (.int fv)))) → ix.Perm ((List.range E.length).filter (fun x => !cvB wr nw (nI ri) (E.getD x []))) → srt (decide (fv = 0)) E ix → ab_J G h (b + 241) 36048 gt → (∀ k9 j9, k9 < (ddI (decide (fv = 0)) E ix ix.length).length → j9 < 12 → gt (18024 + (12 * k9 + j9)) = (E.getD ((ddI (decide (fv = 0)) E ix ix.length).getD k9 0) []).getD j9 0) → (∃ f, ab_I G h (b + 258) 1500 f) → (∀ a, a ≠ b + 220 → a ≠ b + 241 → a ≠ b + 258 → h a = hb a) → Qr (some (.int (nI (ddI (decide (fv = 0)) E ix ix.length).length))) h z) : V G mX13_run (sv_MQ G mX13_run Qr) 72 [(3, .int fv), (2, .int (nI cl)), (1, .int (nI ri)), (0, .ref (b + 220))] [] hb z 0 0 := by
  have hlen : fs0.length = 71 := hq0.1
  obtain ⟨o58, v58⟩ := A58
  obtain ⟨_, _, g0, t41, tg, hgu⟩ := id T
  refine v_aload_n dX13_run_72 rfl 3 rfl ?_
  refine v_aload_n dX13_run_73 rfl 3 rfl ?_
  refine v_callVq (M' := mX13_arrange) (n := 0) (As := []) (ci := 11) (r := (RX13, TX13, 71)) gX13_run_X13_arrange rfl (by decide +kernel) ⟨(Nat.le_of_ble_eq_true rfl), (Nat.le_of_ble_eq_true rfl)⟩ rfl rfl dX13_run_74 rfl ⟨(Nat.le_of_ble_eq_true rfl), (Nat.le_of_ble_eq_true rfl)⟩ (Nat.le_of_ble_eq_true rfl) (by repeat (first | with_reducible assumption | (with_reducible refine sv_us.trans ?_; exact rfl) | with_reducible refine (sv_un (by omega)).trans ?_)) rfl (m_arrange G _ b nc np pl hb fs0 hq0 hm0 fv h59 E hE15 T nw hnw h33 (nI ri) h58 wr wf w42 hwr o58 v58) (fun v9 h1 z1 hq9 => ?_)
  obtain ⟨rfl, fr1, ord, ix, p1, p2, p3_, rfl, p4_⟩ := hq9
  have hm1 := (fr1 (b + 220) (by omega)).trans hm0
  have hxi : ∀ x, x ∈ ix → x < E.length := fun x hx => List.mem_range.mp (List.mem_filter.mp (p1.mem_iff.mp hx)).1
  have hix : ix.length ≤ E.length := (by
    have q := List.length_filter_le (fun x => !cvB wr nw (nI ri) (E.getD x [])) (List.range E.length)
    rw [← p1.length_eq, List.length_range] at q
    exact q)
  have hkl := ddI_le (decide (fv = 0)) E ix ix.length
  refine v_putf 30 (fs' := _) (ci := 11) (C := RX13) (T := TX13) (N := 71) (ty := .int) rfl iwX13_run_X13 tyX13 tyX13_ok nmX13 (Nat.le_of_ble_eq_true rfl) (by decide +kernel) rfl rfl dX13_run_77 rfl rfl (by repeat (first | with_reducible assumption | (with_reducible refine sv_us.trans ?_; exact rfl) | with_reducible refine (sv_un (by omega)).trans ?_)) (by first | omega | (simp only [List.length_set]; omega)) rfl ?_
  refine v_iconst (v := 0) dX13_run_80 (by decide) ?_
  refine v_istore (L' := [(4, _), (3, _), (2, _), (1, _), (0, _)]) dX13_run_81 (Nat.le_of_ble_eq_true rfl) rfl ?_
  refine v_sub (L' := [(4, _), (3, _), (2, _), (1, _), (0, _)]) [0, 1, 2, 3, 4] rfl ?_
  refine l_ruO G Qr _ b nc np pl _ (fs0.set 30 (.int (nI (ddI (decide (fv = 0)) E ix ix.length).length))) (hq0.to (S := [30]) (by rw [List.length_set]; exact hq0.1) (fsE.rf.st (by decide)) (by decide)) ri cl fv hfv (ddI (decide (fv = 0)) E ix ix.length) (by omega) (fun x hx => Nat.lt_of_lt_of_le (hxi x (ddI_m (decide (fv = 0)) E ix ix.length (Nat.le_refl _) x hx)) (by omega)) ord ((sv_un (by omega)).trans p3_) p4_ g0 sv_us (sv_ls (by omega)) (fun h2 gt2 v1 v2 v3 v4 => ?_) (ddI (decide (fv = 0)) E ix ix.length).length 0 _ g0 (Nat.zero_add _) ((sv_un (by omega)).trans ((fr1 _ (by omega)).trans t41)) (fun _ _ => rfl) (fun k9 j9 q => absurd q (Nat.not_lt_zero k9)) (fun _ _ => rfl)
  refine hk h2 ix gt2 v1 p1 p2 v2 (fun k9 j9 q1 q2 => ?_) ⟨ord, (v4 _ (by omega) (by omega)).trans ((sv_un (by omega)).trans p3_)⟩ (fun a q1 q2 q3 => (v4 a q1 q2).trans ((sv_un q1).trans (fr1 a q3)))
  rw [v3 k9 j9 q1 q2]
  exact tg hE15 _ (hxi _ (ddI_m (decide (fv = 0)) E ix ix.length (Nat.le_refl _) _ (getD_mem 0 q1))) j9 q2

end GU
