set_option maxHeartbeats 4000000 in
set_option maxRecDepth 100000 in
theorem l_lw33 (G : sv_G) (Qr : Option Value → sv_h → Nat → Prop) (z b nc np pl : Nat) (R : Nat → Bool) (hm p3 p4 sz : Nat → Nat) (ly vo : Nat → Int32) (mp : Nat → mvT) (X Y : Nat → Nat → Int) (hb : sv_h) (fs0 : List Value) (hq0 : mfq_ b nc np pl fs0) (MY : myl_ G hb b nc np pl R hm p3 p4 sz ly vo mp X Y) (wv : List Nat) (how : ∀ i, i ∈ wv → i < pl) (d : Nat) (hd : d ≤ wv.length) (hw16 : wv.length ≤ 16) (mo : Value) (o : Nat) (fw : Nat → Int32) (o3 : ab_I G hb (b + 246) 1616 fw) (hmo : 0 < d → mo = .int (nI o) ∧ o ≤ 100 ∧ ∀ e, e < wv.length → fw (16 * o + e) = nI (wv.getD e 0)) (h60 : fs0[60]? = some mo) (h61 : fs0[61]? = some (.int (nI d))) (r : Nat) (x y : Int) (hk : ∀ (h : sv_h) (fs : List Value), h (b + 220) = some (.inr (11, fs)) → fs.length = 71 → fsE [52, 53] fs0 fs → fs[52]? = some (.long (jN (mvA (mvW mp (wv.take d)) (x, y)).1)) → fs[53]? = some (.long (jN (mvA (mvW mp (wv.take d)) (x, y)).2)) → (∀ a, a ≠ b + 220 → h a = hb a) → V G mX13_layOut (sv_MQ G mX13_layOut Qr) 61 [(1, .int (nI (12 * r))), (0, .ref (b + 220))] [] h z 0 0) : ∀ (e : Nat) (h : sv_h) (fs : List Value), e ≤ d → h (b + 220) = some (.inr (11, fs)) → fs.length = 71 → fsE [52, 53] fs0 fs → fs[52]? = some (.long (jN (mvA (mvW mp ((wv.take d).drop e)) (x, y)).1)) → fs[53]? = some (.long (jN (mvA (mvW mp ((wv.take d).drop e)) (x, y)).2)) → (∀ a, a ≠ b + 220 → h a = hb a) → V G mX13_layOut (sv_MQ G mX13_layOut Qr) 33 [(2, .int (iN ((e : Int) - 1))), (1, .int (nI (12 * r))), (0, .ref (b + 220))] [] h z 0 0 := by
  intro e
  induction e with
  | zero =>
    intro h fs hed hm9 hl hE f_tx f_ty fr
    obtain ⟨_, _, _, ⟨g3, y3, y3a⟩, ⟨g4, y4, y4a⟩, ⟨g5, y5, y5a⟩, ⟨_, y6, _⟩, ⟨_, y7, _⟩, ⟨g8, y8, y8a⟩, ⟨g9, y9, y9a⟩, ⟨gA, yA, yAa⟩, yB, yC, yD, yE, yF⟩ := id MY
    have hqf := hq0.to (S := [52, 53]) hl hE (by decide)
    have hlen : fs.length = 71 := hl
    have f_way := hqf.f_way
    have f_told := hqf.f_told
    have f_metOf : fs[60]? = some mo := (hE 60 (by decide)).trans h60
    have f_metDepth : fs[61]? = some (.int (nI d)) := (hE 61 (by decide)).trans h61
    have w246 : ab_I G h (b + 246) 1616 fw := (fr _ (by omega)).trans o3
    have w229 : ab_J G h (b + 229) 32 g8 := (fr _ (by omega)).trans y8
    have w230 : ab_J G h (b + 230) 32 g9 := (fr _ (by omega)).trans y9
    have w231 : ab_I G h (b + 231) 32 gA := (fr _ (by omega)).trans yA
    refine v_iload_n dX13_layOut_33 rfl 0 rfl ?_
    refine v_if_lt (tgt := 61) dX13_layOut_34 (by decide) (fun c_34 => ?_) (fun c_34 => ?_)
    · refine v_sub (L' := [(1, _), (0, _)]) [1, 2] rfl ?_
      exact hk h fs hm9 hl hE f_tx f_ty fr
    · exact absurd (by rw [Int32.lt_iff_toInt_lt, iN_to (by omega) (by omega), show Int32.toInt 0 = 0 from rfl]; omega) c_34
  | succ e ih =>
    intro h fs hed hm9 hl hE f_tx f_ty fr
    obtain ⟨_, _, _, ⟨g3, y3, y3a⟩, ⟨g4, y4, y4a⟩, ⟨g5, y5, y5a⟩, ⟨_, y6, _⟩, ⟨_, y7, _⟩, ⟨g8, y8, y8a⟩, ⟨g9, y9, y9a⟩, ⟨gA, yA, yAa⟩, yB, yC, yD, yE, yF⟩ := id MY
    have hqf := hq0.to (S := [52, 53]) hl hE (by decide)
    have hlen : fs.length = 71 := hl
    have f_way := hqf.f_way
    have f_told := hqf.f_told
    have f_metOf : fs[60]? = some mo := (hE 60 (by decide)).trans h60
    have f_metDepth : fs[61]? = some (.int (nI d)) := (hE 61 (by decide)).trans h61
    have w246 : ab_I G h (b + 246) 1616 fw := (fr _ (by omega)).trans o3
    have w229 : ab_J G h (b + 229) 32 g8 := (fr _ (by omega)).trans y8
    have w230 : ab_J G h (b + 230) 32 g9 := (fr _ (by omega)).trans y9
    have w231 : ab_I G h (b + 231) 32 gA := (fr _ (by omega)).trans yA
    have hdl : e < wv.length := by omega
    obtain ⟨em, ho100, o9⟩ := hmo (by omega)
    rw [em] at f_metOf
    have hwy := o9 e hdl
    have hin : wv.getD e 0 < pl := how _ (getD_mem 0 hdl)
    obtain ⟨tn, n1, n2, n3, n4⟩ := yAa _ hin
    have hdl2 : e < (wv.take d).length := (by rw [List.length_take]; omega)
    have hdd : (wv.take d).drop e = wv.getD e 0 :: (wv.take d).drop (e + 1) := (by rw [dr_c (A := wv.take d) 0 hdl2, tk_gD (by omega)])
    have hq4 : ∀ j, j ∈ wv → (mp j).2.1 < 4 := fun j hj => (by obtain ⟨t9, m1, _, _, m4⟩ := yAa j (how j hj); omega)
    have hcomp := mvW_c (mp := mp) (i := wv.getD e 0) (w := (wv.take d).drop (e + 1)) (hq4 _ (getD_mem 0 hdl)) (fun j hj => hq4 j (List.mem_of_mem_take (List.mem_of_mem_drop hj))) (x, y)
    rw [← hdd] at hcomp
    have hie : iN (((e + 1 : Nat) : Int) - 1) = nI e := congrArg iN (show ((e + 1 : Nat) : Int) - 1 = (e : Int) by omega)
    rw [hie]
    refine v_iload_n dX13_layOut_33 rfl 0 rfl ?_
    refine v_if_lt (tgt := 61) dX13_layOut_34 (by decide) (fun c_34 => ?_) (fun c_34 => ?_)
    · exact absurd c_34 (by rw [Int32.lt_iff_toInt_lt, nI_toI (by omega), show Int32.toInt 0 = 0 from rfl]; omega)
    · refine v_aload_n dX13_layOut_37 rfl 2 rfl ?_
      refine v_aload_n dX13_layOut_38 rfl 2 rfl ?_
      refine v_getf 39 (ci := 11) (C := RX13) (T := TX13) (N := 71) rfl iwX13_layOut_X13 (Nat.le_of_ble_eq_true rfl) (by decide +kernel) dX13_layOut_39 (by first | with_reducible assumption) (by repeat (first | with_reducible assumption | (with_reducible refine (sv_ls (by first | omega | (simp only [List.length_set]; omega))).trans ?_; exact rfl) | with_reducible refine (List.getElem?_set_ne (by decide)).trans ?_)) ?_
      refine v_bipush (v := 16) dX13_layOut_42 (by decide) ?_
      refine v_aload_n dX13_layOut_44 rfl 2 rfl ?_
      refine v_getf 60 (ci := 11) (C := RX13) (T := TX13) (N := 71) rfl iwX13_layOut_X13 (Nat.le_of_ble_eq_true rfl) (by decide +kernel) dX13_layOut_45 (by first | with_reducible assumption) (by repeat (first | with_reducible assumption | (with_reducible refine (sv_ls (by first | omega | (simp only [List.length_set]; omega))).trans ?_; exact rfl) | with_reducible refine (List.getElem?_set_ne (by decide)).trans ?_)) ?_
      refine v_imul dX13_layOut_48 ?_
      refine v_iload_n dX13_layOut_49 rfl 0 rfl ?_
      refine v_iadd dX13_layOut_50 ?_
      rw [sv_16a]
      refine v_ialdS (v := nI (wv.getD e 0)) dX13_layOut_51 (by first | with_reducible assumption) (vp_in_nI (by omega) (by omega)) (by rw [nI_clamp (by omega)]; exact hwy) ?_
      refine v_callVq (M' := mX13_out) (n := 1) (As := [_]) (ci := 11) (r := (RX13, TX13, 71)) gX13_layOut_X13_out rfl (by decide +kernel) ⟨(Nat.le_of_ble_eq_true rfl), (Nat.le_of_ble_eq_true rfl)⟩ rfl rfl dX13_layOut_52 rfl ⟨(Nat.le_of_ble_eq_true rfl), (Nat.le_of_ble_eq_true rfl)⟩ (Nat.le_of_ble_eq_true rfl) (by first | with_reducible assumption) rfl (m_out G tn n1 (mp (wv.getD e 0)) n3 n4 _ b nc np pl h (wv.getD e 0) hin yC gA w231 n2 g8 g9 w229 w230 (y8a _ hin) (y9a _ hin) fs hqf hm9 (mvA (mvW mp ((wv.take d).drop (e + 1))) (x, y)).1 (mvA (mvW mp ((wv.take d).drop (e + 1))) (x, y)).2 f_tx f_ty) (fun v h1 z1 hq9 => ?_)
      obtain ⟨rfl, rfl, ⟨fs1, u1, u2, u3, u4, u5⟩, u6⟩ := hq9
      have u7 : fs1[52]? = some (.long (jN (mvA (mvW mp ((wv.take d).drop e)) (x, y)).1)) := (by rw [hcomp]; exact u4)
      have u8 : fs1[53]? = some (.long (jN (mvA (mvW mp ((wv.take d).drop e)) (x, y)).2)) := (by rw [hcomp]; exact u5)
      refine v_iinc (j := 0) (L' := [(2, _), (1, _), (0, _)]) (v := iN ((e : Int) - 1)) dX13_layOut_55 rfl (by rw [show ((e : Int) - 1) = (e : Int) + (-1) by omega, iN_add]; first | done | rfl) (Nat.le_of_ble_eq_true rfl) rfl ?_
      refine v_goto (tgt := 33) dX13_layOut_58 (by decide) ?_
      refine v_sub (L' := [(2, _), (1, _), (0, _)]) [0, 1, 2] rfl ?_
      exact ih h1 fs1 (by omega) u1 u2 (hE.tr u3) u7 u8 (fun a p => (u6 a p).trans (fr a p))

set_option maxHeartbeats 4000000 in
set_option maxRecDepth 100000 in
theorem l_lw106 (G : sv_G) (Qr : Option Value → sv_h → Nat → Prop) (z b nc np pl : Nat) (R : Nat → Bool) (hm p3 p4 sz : Nat → Nat) (ly vo : Nat → Int32) (mp : Nat → mvT) (X Y : Nat → Nat → Int) (hb : sv_h) (fs0 : List Value) (hq0 : mfq_ b nc np pl fs0) (MY : myl_ G hb b nc np pl R hm p3 p4 sz ly vo mp X Y) (wv : List Nat) (how : ∀ i, i ∈ wv → i < pl) (d : Nat) (hd : d ≤ wv.length) (hw16 : wv.length ≤ 16) (mo : Value) (o : Nat) (fw : Nat → Int32) (o3 : ab_I G hb (b + 246) 1616 fw) (hmo : 0 < d → mo = .int (nI o) ∧ o ≤ 100 ∧ ∀ e, e < wv.length → fw (16 * o + e) = nI (wv.getD e 0)) (h60 : fs0[60]? = some mo) (h61 : fs0[61]? = some (.int (nI d))) (r : Nat) (l4 l2 : Int64) (x y : Int) (hk : ∀ (h : sv_h) (fs : List Value), h (b + 220) = some (.inr (11, fs)) → fs.length = 71 → fsE [52, 53] fs0 fs → fs[52]? = some (.long (jN (mvA (mvW mp (wv.take d)) (x, y)).1)) → fs[53]? = some (.long (jN (mvA (mvW mp (wv.take d)) (x, y)).2)) → (∀ a, a ≠ b + 220 → h a = hb a) → V G mX13_layOut (sv_MQ G mX13_layOut Qr) 136 [(4, .long l4), (2, .long l2), (1, .int (nI (12 * r))), (0, .ref (b + 220))] [] h z 0 0) : ∀ (e : Nat) (h : sv_h) (fs : List Value), e ≤ d → h (b + 220) = some (.inr (11, fs)) → fs.length = 71 → fsE [52, 53] fs0 fs → fs[52]? = some (.long (jN (mvA (mvW mp ((wv.take d).drop e)) (x, y)).1)) → fs[53]? = some (.long (jN (mvA (mvW mp ((wv.take d).drop e)) (x, y)).2)) → (∀ a, a ≠ b + 220 → h a = hb a) → V G mX13_layOut (sv_MQ G mX13_layOut Qr) 106 [(6, .int (iN ((e : Int) - 1))), (4, .long l4), (2, .long l2), (1, .int (nI (12 * r))), (0, .ref (b + 220))] [] h z 0 0 := by
  intro e
  induction e with
  | zero =>
    intro h fs hed hm9 hl hE f_tx f_ty fr
    obtain ⟨_, _, _, ⟨g3, y3, y3a⟩, ⟨g4, y4, y4a⟩, ⟨g5, y5, y5a⟩, ⟨_, y6, _⟩, ⟨_, y7, _⟩, ⟨g8, y8, y8a⟩, ⟨g9, y9, y9a⟩, ⟨gA, yA, yAa⟩, yB, yC, yD, yE, yF⟩ := id MY
    have hqf := hq0.to (S := [52, 53]) hl hE (by decide)
    have hlen : fs.length = 71 := hl
    have f_way := hqf.f_way
    have f_told := hqf.f_told
    have f_metOf : fs[60]? = some mo := (hE 60 (by decide)).trans h60
    have f_metDepth : fs[61]? = some (.int (nI d)) := (hE 61 (by decide)).trans h61
    have w246 : ab_I G h (b + 246) 1616 fw := (fr _ (by omega)).trans o3
    have w229 : ab_J G h (b + 229) 32 g8 := (fr _ (by omega)).trans y8
    have w230 : ab_J G h (b + 230) 32 g9 := (fr _ (by omega)).trans y9
    have w231 : ab_I G h (b + 231) 32 gA := (fr _ (by omega)).trans yA
    refine v_iload dX13_layOut_106 0 rfl ?_
    refine v_if_lt (tgt := 136) dX13_layOut_108 (by decide) (fun c_108 => ?_) (fun c_108 => ?_)
    · refine v_sub (L' := [(4, _), (2, _), (1, _), (0, _)]) [1, 2, 3, 4] rfl ?_
      exact hk h fs hm9 hl hE f_tx f_ty fr
    · exact absurd (by rw [Int32.lt_iff_toInt_lt, iN_to (by omega) (by omega), show Int32.toInt 0 = 0 from rfl]; omega) c_108
  | succ e ih =>
    intro h fs hed hm9 hl hE f_tx f_ty fr
    obtain ⟨_, _, _, ⟨g3, y3, y3a⟩, ⟨g4, y4, y4a⟩, ⟨g5, y5, y5a⟩, ⟨_, y6, _⟩, ⟨_, y7, _⟩, ⟨g8, y8, y8a⟩, ⟨g9, y9, y9a⟩, ⟨gA, yA, yAa⟩, yB, yC, yD, yE, yF⟩ := id MY
    have hqf := hq0.to (S := [52, 53]) hl hE (by decide)
    have hlen : fs.length = 71 := hl
    have f_way := hqf.f_way
    have f_told := hqf.f_told
    have f_metOf : fs[60]? = some mo := (hE 60 (by decide)).trans h60
    have f_metDepth : fs[61]? = some (.int (nI d)) := (hE 61 (by decide)).trans h61
    have w246 : ab_I G h (b + 246) 1616 fw := (fr _ (by omega)).trans o3
    have w229 : ab_J G h (b + 229) 32 g8 := (fr _ (by omega)).trans y8
    have w230 : ab_J G h (b + 230) 32 g9 := (fr _ (by omega)).trans y9
    have w231 : ab_I G h (b + 231) 32 gA := (fr _ (by omega)).trans yA
    have hdl : e < wv.length := by omega
    obtain ⟨em, ho100, o9⟩ := hmo (by omega)
    rw [em] at f_metOf
    have hwy := o9 e hdl
    have hin : wv.getD e 0 < pl := how _ (getD_mem 0 hdl)
    obtain ⟨tn, n1, n2, n3, n4⟩ := yAa _ hin
    have hdl2 : e < (wv.take d).length := (by rw [List.length_take]; omega)
    have hdd : (wv.take d).drop e = wv.getD e 0 :: (wv.take d).drop (e + 1) := (by rw [dr_c (A := wv.take d) 0 hdl2, tk_gD (by omega)])
    have hq4 : ∀ j, j ∈ wv → (mp j).2.1 < 4 := fun j hj => (by obtain ⟨t9, m1, _, _, m4⟩ := yAa j (how j hj); omega)
    have hcomp := mvW_c (mp := mp) (i := wv.getD e 0) (w := (wv.take d).drop (e + 1)) (hq4 _ (getD_mem 0 hdl)) (fun j hj => hq4 j (List.mem_of_mem_take (List.mem_of_mem_drop hj))) (x, y)
    rw [← hdd] at hcomp
    have hie : iN (((e + 1 : Nat) : Int) - 1) = nI e := congrArg iN (show ((e + 1 : Nat) : Int) - 1 = (e : Int) by omega)
    rw [hie]
    refine v_iload dX13_layOut_106 0 rfl ?_
    refine v_if_lt (tgt := 136) dX13_layOut_108 (by decide) (fun c_108 => ?_) (fun c_108 => ?_)
    · exact absurd c_108 (by rw [Int32.lt_iff_toInt_lt, nI_toI (by omega), show Int32.toInt 0 = 0 from rfl]; omega)
    · refine v_aload_n dX13_layOut_111 rfl 4 rfl ?_
      refine v_aload_n dX13_layOut_112 rfl 4 rfl ?_
      refine v_getf 39 (ci := 11) (C := RX13) (T := TX13) (N := 71) rfl iwX13_layOut_X13 (Nat.le_of_ble_eq_true rfl) (by decide +kernel) dX13_layOut_113 (by first | with_reducible assumption) (by repeat (first | with_reducible assumption | (with_reducible refine (sv_ls (by first | omega | (simp only [List.length_set]; omega))).trans ?_; exact rfl) | with_reducible refine (List.getElem?_set_ne (by decide)).trans ?_)) ?_
      refine v_bipush (v := 16) dX13_layOut_116 (by decide) ?_
      refine v_aload_n dX13_layOut_118 rfl 4 rfl ?_
      refine v_getf 60 (ci := 11) (C := RX13) (T := TX13) (N := 71) rfl iwX13_layOut_X13 (Nat.le_of_ble_eq_true rfl) (by decide +kernel) dX13_layOut_119 (by first | with_reducible assumption) (by repeat (first | with_reducible assumption | (with_reducible refine (sv_ls (by first | omega | (simp only [List.length_set]; omega))).trans ?_; exact rfl) | with_reducible refine (List.getElem?_set_ne (by decide)).trans ?_)) ?_
      refine v_imul dX13_layOut_122 ?_
      refine v_iload dX13_layOut_123 0 rfl ?_
      refine v_iadd dX13_layOut_125 ?_
      rw [sv_16a]
      refine v_ialdS (v := nI (wv.getD e 0)) dX13_layOut_126 (by first | with_reducible assumption) (vp_in_nI (by omega) (by omega)) (by rw [nI_clamp (by omega)]; exact hwy) ?_
      refine v_callVq (M' := mX13_out) (n := 1) (As := [_]) (ci := 11) (r := (RX13, TX13, 71)) gX13_layOut_X13_out rfl (by decide +kernel) ⟨(Nat.le_of_ble_eq_true rfl), (Nat.le_of_ble_eq_true rfl)⟩ rfl rfl dX13_layOut_127 rfl ⟨(Nat.le_of_ble_eq_true rfl), (Nat.le_of_ble_eq_true rfl)⟩ (Nat.le_of_ble_eq_true rfl) (by first | with_reducible assumption) rfl (m_out G tn n1 (mp (wv.getD e 0)) n3 n4 _ b nc np pl h (wv.getD e 0) hin yC gA w231 n2 g8 g9 w229 w230 (y8a _ hin) (y9a _ hin) fs hqf hm9 (mvA (mvW mp ((wv.take d).drop (e + 1))) (x, y)).1 (mvA (mvW mp ((wv.take d).drop (e + 1))) (x, y)).2 f_tx f_ty) (fun v h1 z1 hq9 => ?_)
      obtain ⟨rfl, rfl, ⟨fs1, u1, u2, u3, u4, u5⟩, u6⟩ := hq9
      have u7 : fs1[52]? = some (.long (jN (mvA (mvW mp ((wv.take d).drop e)) (x, y)).1)) := (by rw [hcomp]; exact u4)
      have u8 : fs1[53]? = some (.long (jN (mvA (mvW mp ((wv.take d).drop e)) (x, y)).2)) := (by rw [hcomp]; exact u5)
      refine v_iinc (j := 0) (L' := [(6, _), (4, _), (2, _), (1, _), (0, _)]) (v := iN ((e : Int) - 1)) dX13_layOut_130 rfl (by rw [show ((e : Int) - 1) = (e : Int) + (-1) by omega, iN_add]; first | done | rfl) (Nat.le_of_ble_eq_true rfl) rfl ?_
      refine v_goto (tgt := 106) dX13_layOut_133 (by decide) ?_
      refine v_sub (L' := [(6, _), (4, _), (2, _), (1, _), (0, _)]) [0, 1, 2, 3, 4] rfl ?_
      exact ih h1 fs1 (by omega) u1 u2 (hE.tr u3) u7 u8 (fun a p => (u6 a p).trans (fr a p))

set_option maxHeartbeats 4000000 in
set_option maxRecDepth 100000 in
theorem t_lw136 (G : sv_G) (z b nc np pl : Nat) (R : Nat → Bool) (hm p3 p4 sz : Nat → Nat) (ly vo : Nat → Int32) (mp : Nat → mvT) (X Y : Nat → Nat → Int) (hb : sv_h) (fs0 : List Value) (hq0 : mfq_ b nc np pl fs0) (MY : myl_ G hb b nc np pl R hm p3 p4 sz ly vo mp X Y) (wv : List Nat) (how : ∀ i, i ∈ wv → i < pl) (d : Nat) (hd : d ≤ wv.length) (hw16 : wv.length ≤ 16) (mo : Value) (o : Nat) (fw : Nat → Int32) (o3 : ab_I G hb (b + 246) 1616 fw) (hmo : 0 < d → mo = .int (nI o) ∧ o ≤ 100 ∧ ∀ e, e < wv.length → fw (16 * o + e) = nI (wv.getD e 0)) (h60 : fs0[60]? = some mo) (h61 : fs0[61]? = some (.int (nI d))) (r : Nat) (hr : r < 1500) (hm0 : hb (b + 220) = some (.inr (11, fs0))) (gt : Nat → Int64) (h41 : ab_J G hb (b + 241) 36048 gt) (x0 y0 x1 y1 : Int) (q8 : gt (12 * r + 8) = jN x0) (q9 : gt (12 * r + 9) = jN y0) (q10 : gt (12 * r + 10) = jN x1) (q11 : gt (12 * r + 11) = jN y1) (c0 : -1000000000 ≤ (mvA (mvW mp (wv.take d)) (x0, y0)).1 ∧ (mvA (mvW mp (wv.take d)) (x0, y0)).1 ≤ 1000000000) (c1 : -1000000000 ≤ (mvA (mvW mp (wv.take d)) (x0, y0)).2 ∧ (mvA (mvW mp (wv.take d)) (x0, y0)).2 ≤ 1000000000) (c2 : -1000000000 ≤ (mvA (mvW mp (wv.take d)) (x1, y1)).1 ∧ (mvA (mvW mp (wv.take d)) (x1, y1)).1 ≤ 1000000000) (c3 : -1000000000 ≤ (mvA (mvW mp (wv.take d)) (x1, y1)).2 ∧ (mvA (mvW mp (wv.take d)) (x1, y1)).2 ≤ 1000000000) (h : sv_h) (fs : List Value) (hm9 : h (b + 220) = some (.inr (11, fs))) (hl : fs.length = 71) (hE : fsE [52, 53] fs0 fs) (f_tx : fs[52]? = some (.long (jN (mvA (mvW mp (wv.take d)) (x1, y1)).1))) (f_ty : fs[53]? = some (.long (jN (mvA (mvW mp (wv.take d)) (x1, y1)).2))) (fr : (∀ a, a ≠ b + 220 → h a = hb a)) : V G mX13_layOut (sv_MQ G mX13_layOut (fun v h1 z1 => v = none ∧ z1 = z ∧ (∃ fs1, h1 (b + 220) = some (.inr (11, fs1)) ∧ fs1.length = 71 ∧ fsE [52, 53] fs0 fs1) ∧ (∃ gt1, ab_J G h1 (b + 241) 36048 gt1 ∧ gt1 (12 * r) = jN (min (mvA (mvW mp (wv.take d)) (x0, y0)).1 (mvA (mvW mp (wv.take d)) (x1, y1)).1) ∧ gt1 (12 * r + 1) = jN (min (mvA (mvW mp (wv.take d)) (x0, y0)).2 (mvA (mvW mp (wv.take d)) (x1, y1)).2) ∧ gt1 (12 * r + 2) = jN (max (mvA (mvW mp (wv.take d)) (x0, y0)).1 (mvA (mvW mp (wv.take d)) (x1, y1)).1) ∧ gt1 (12 * r + 3) = jN (max (mvA (mvW mp (wv.take d)) (x0, y0)).2 (mvA (mvW mp (wv.take d)) (x1, y1)).2) ∧ ∀ a, ¬ (12 * r ≤ a ∧ a < 12 * r + 4) → gt1 a = gt a) ∧ ∀ a, a ≠ b + 220 → a ≠ b + 241 → h1 a = hb a)) 136 [(4, .long (jN (mvA (mvW mp (wv.take d)) (x0, y0)).2)), (2, .long (jN (mvA (mvW mp (wv.take d)) (x0, y0)).1)), (1, .int (nI (12 * r))), (0, .ref (b + 220))] [] h z 0 0 := by
  obtain ⟨_, _, _, ⟨g3, y3, y3a⟩, ⟨g4, y4, y4a⟩, ⟨g5, y5, y5a⟩, ⟨_, y6, _⟩, ⟨_, y7, _⟩, ⟨g8, y8, y8a⟩, ⟨g9, y9, y9a⟩, ⟨gA, yA, yAa⟩, yB, yC, yD, yE, yF⟩ := id MY
  have hqf := hq0.to (S := [52, 53]) hl hE (by decide)
  have hlen : fs.length = 71 := hl
  have f_way := hqf.f_way
  have f_told := hqf.f_told
  have f_metOf : fs[60]? = some mo := (hE 60 (by decide)).trans h60
  have f_metDepth : fs[61]? = some (.int (nI d)) := (hE 61 (by decide)).trans h61
  have w246 : ab_I G h (b + 246) 1616 fw := (fr _ (by omega)).trans o3
  have w229 : ab_J G h (b + 229) 32 g8 := (fr _ (by omega)).trans y8
  have w230 : ab_J G h (b + 230) 32 g9 := (fr _ (by omega)).trans y9
  have w231 : ab_I G h (b + 231) 32 gA := (fr _ (by omega)).trans yA
  have w241 : ab_J G h (b + 241) 36048 gt := (fr _ (by omega)).trans h41
  refine v_aload_n dX13_layOut_136 rfl 3 rfl ?_
  refine v_getf 27 (ci := 11) (C := RX13) (T := TX13) (N := 71) rfl iwX13_layOut_X13 (Nat.le_of_ble_eq_true rfl) (by decide +kernel) dX13_layOut_137 (by repeat (first | with_reducible assumption | (with_reducible refine sv_us.trans ?_; exact rfl) | with_reducible refine (sv_un (by omega)).trans ?_)) (by repeat (first | with_reducible assumption | (with_reducible refine (sv_ls (by first | omega | (simp only [List.length_set]; omega))).trans ?_; exact rfl) | with_reducible refine (List.getElem?_set_ne (by decide)).trans ?_)) ?_
  refine v_iload_n dX13_layOut_140 rfl 2 rfl ?_
  refine v_lload_n dX13_layOut_141 rfl 1 rfl ?_
  refine v_aload_n dX13_layOut_142 rfl 3 rfl ?_
  refine v_getf 52 (ci := 11) (C := RX13) (T := TX13) (N := 71) rfl iwX13_layOut_X13 (Nat.le_of_ble_eq_true rfl) (by decide +kernel) dX13_layOut_143 (by repeat (first | with_reducible assumption | (with_reducible refine sv_us.trans ?_; exact rfl) | with_reducible refine (sv_un (by omega)).trans ?_)) (by repeat (first | with_reducible assumption | (with_reducible refine (sv_ls (by first | omega | (simp only [List.length_set]; omega))).trans ?_; exact rfl) | with_reducible refine (List.getElem?_set_ne (by decide)).trans ?_)) ?_
  refine v_callSq (M' := mX13_least) (n := 2) (As := [_, _]) ggX13_layOut_X13_least (by decide +kernel) (by decide +kernel) (by decide +kernel) rfl (by decide +kernel) ⟨(Nat.le_of_ble_eq_true rfl), (Nat.le_of_ble_eq_true rfl)⟩ dX13_layOut_146 rfl ⟨(Nat.le_of_ble_eq_true rfl), (Nat.le_of_ble_eq_true rfl)⟩ (Nat.le_of_ble_eq_true rfl) rfl (m_leastW G _ _ c0 c2) (fun v h1 z1 hq => v_pq hq ?_)
  refine v_last dX13_layOut_149 (by repeat (first | with_reducible assumption | (with_reducible refine sv_us.trans ?_; exact rfl) | with_reducible refine (sv_un (by omega)).trans ?_)) (vp_in_nI (by omega) (by omega)) ?_
  refine v_aload_n dX13_layOut_150 rfl 3 rfl ?_
  refine v_getf 27 (ci := 11) (C := RX13) (T := TX13) (N := 71) rfl iwX13_layOut_X13 (Nat.le_of_ble_eq_true rfl) (by decide +kernel) dX13_layOut_151 (by repeat (first | with_reducible assumption | (with_reducible refine sv_us.trans ?_; exact rfl) | with_reducible refine (sv_un (by omega)).trans ?_)) (by repeat (first | with_reducible assumption | (with_reducible refine (sv_ls (by first | omega | (simp only [List.length_set]; omega))).trans ?_; exact rfl) | with_reducible refine (List.getElem?_set_ne (by decide)).trans ?_)) ?_
  refine v_iload_n dX13_layOut_154 rfl 2 rfl ?_
  refine v_iconst (v := 1) dX13_layOut_155 (by decide) ?_
  refine v_iadd dX13_layOut_156 ?_
  refine v_lload dX13_layOut_157 0 rfl ?_
  refine v_aload_n dX13_layOut_159 rfl 3 rfl ?_
  refine v_getf 53 (ci := 11) (C := RX13) (T := TX13) (N := 71) rfl iwX13_layOut_X13 (Nat.le_of_ble_eq_true rfl) (by decide +kernel) dX13_layOut_160 (by repeat (first | with_reducible assumption | (with_reducible refine sv_us.trans ?_; exact rfl) | with_reducible refine (sv_un (by omega)).trans ?_)) (by repeat (first | with_reducible assumption | (with_reducible refine (sv_ls (by first | omega | (simp only [List.length_set]; omega))).trans ?_; exact rfl) | with_reducible refine (List.getElem?_set_ne (by decide)).trans ?_)) ?_
  refine v_callSq (M' := mX13_least) (n := 2) (As := [_, _]) ggX13_layOut_X13_least (by decide +kernel) (by decide +kernel) (by decide +kernel) rfl (by decide +kernel) ⟨(Nat.le_of_ble_eq_true rfl), (Nat.le_of_ble_eq_true rfl)⟩ dX13_layOut_163 rfl ⟨(Nat.le_of_ble_eq_true rfl), (Nat.le_of_ble_eq_true rfl)⟩ (Nat.le_of_ble_eq_true rfl) rfl (m_leastW G _ _ c1 c3) (fun v h1 z1 hq => v_pq hq ?_)
  rw [sv_p1]
  refine v_last dX13_layOut_166 (by repeat (first | with_reducible assumption | (with_reducible refine sv_us.trans ?_; exact rfl) | with_reducible refine (sv_un (by omega)).trans ?_)) (vp_in_nI (by omega) (by omega)) ?_
  refine v_aload_n dX13_layOut_167 rfl 3 rfl ?_
  refine v_getf 27 (ci := 11) (C := RX13) (T := TX13) (N := 71) rfl iwX13_layOut_X13 (Nat.le_of_ble_eq_true rfl) (by decide +kernel) dX13_layOut_168 (by repeat (first | with_reducible assumption | (with_reducible refine sv_us.trans ?_; exact rfl) | with_reducible refine (sv_un (by omega)).trans ?_)) (by repeat (first | with_reducible assumption | (with_reducible refine (sv_ls (by first | omega | (simp only [List.length_set]; omega))).trans ?_; exact rfl) | with_reducible refine (List.getElem?_set_ne (by decide)).trans ?_)) ?_
  refine v_iload_n dX13_layOut_171 rfl 2 rfl ?_
  refine v_iconst (v := 2) dX13_layOut_172 (by decide) ?_
  refine v_iadd dX13_layOut_173 ?_
  refine v_lload_n dX13_layOut_174 rfl 1 rfl ?_
  refine v_aload_n dX13_layOut_175 rfl 3 rfl ?_
  refine v_getf 52 (ci := 11) (C := RX13) (T := TX13) (N := 71) rfl iwX13_layOut_X13 (Nat.le_of_ble_eq_true rfl) (by decide +kernel) dX13_layOut_176 (by repeat (first | with_reducible assumption | (with_reducible refine sv_us.trans ?_; exact rfl) | with_reducible refine (sv_un (by omega)).trans ?_)) (by repeat (first | with_reducible assumption | (with_reducible refine (sv_ls (by first | omega | (simp only [List.length_set]; omega))).trans ?_; exact rfl) | with_reducible refine (List.getElem?_set_ne (by decide)).trans ?_)) ?_
  refine v_callSq (M' := mX13_most) (n := 2) (As := [_, _]) ggX13_layOut_X13_most (by decide +kernel) (by decide +kernel) (by decide +kernel) rfl (by decide +kernel) ⟨(Nat.le_of_ble_eq_true rfl), (Nat.le_of_ble_eq_true rfl)⟩ dX13_layOut_179 rfl ⟨(Nat.le_of_ble_eq_true rfl), (Nat.le_of_ble_eq_true rfl)⟩ (Nat.le_of_ble_eq_true rfl) rfl (m_mostW G _ _ c0 c2) (fun v h1 z1 hq => v_pq hq ?_)
  rw [sv_p2]
  refine v_last dX13_layOut_182 (by repeat (first | with_reducible assumption | (with_reducible refine sv_us.trans ?_; exact rfl) | with_reducible refine (sv_un (by omega)).trans ?_)) (vp_in_nI (by omega) (by omega)) ?_
  refine v_aload_n dX13_layOut_183 rfl 3 rfl ?_
  refine v_getf 27 (ci := 11) (C := RX13) (T := TX13) (N := 71) rfl iwX13_layOut_X13 (Nat.le_of_ble_eq_true rfl) (by decide +kernel) dX13_layOut_184 (by repeat (first | with_reducible assumption | (with_reducible refine sv_us.trans ?_; exact rfl) | with_reducible refine (sv_un (by omega)).trans ?_)) (by repeat (first | with_reducible assumption | (with_reducible refine (sv_ls (by first | omega | (simp only [List.length_set]; omega))).trans ?_; exact rfl) | with_reducible refine (List.getElem?_set_ne (by decide)).trans ?_)) ?_
  refine v_iload_n dX13_layOut_187 rfl 2 rfl ?_
  refine v_iconst (v := 3) dX13_layOut_188 (by decide) ?_
  refine v_iadd dX13_layOut_189 ?_
  refine v_lload dX13_layOut_190 0 rfl ?_
  refine v_aload_n dX13_layOut_192 rfl 3 rfl ?_
  refine v_getf 53 (ci := 11) (C := RX13) (T := TX13) (N := 71) rfl iwX13_layOut_X13 (Nat.le_of_ble_eq_true rfl) (by decide +kernel) dX13_layOut_193 (by repeat (first | with_reducible assumption | (with_reducible refine sv_us.trans ?_; exact rfl) | with_reducible refine (sv_un (by omega)).trans ?_)) (by repeat (first | with_reducible assumption | (with_reducible refine (sv_ls (by first | omega | (simp only [List.length_set]; omega))).trans ?_; exact rfl) | with_reducible refine (List.getElem?_set_ne (by decide)).trans ?_)) ?_
  refine v_callSq (M' := mX13_most) (n := 2) (As := [_, _]) ggX13_layOut_X13_most (by decide +kernel) (by decide +kernel) (by decide +kernel) rfl (by decide +kernel) ⟨(Nat.le_of_ble_eq_true rfl), (Nat.le_of_ble_eq_true rfl)⟩ dX13_layOut_196 rfl ⟨(Nat.le_of_ble_eq_true rfl), (Nat.le_of_ble_eq_true rfl)⟩ (Nat.le_of_ble_eq_true rfl) rfl (m_mostW G _ _ c1 c3) (fun v h1 z1 hq => v_pq hq ?_)
  rw [sv_p3]
  refine v_last dX13_layOut_199 (by repeat (first | with_reducible assumption | (with_reducible refine sv_us.trans ?_; exact rfl) | with_reducible refine (sv_un (by omega)).trans ?_)) (vp_in_nI (by omega) (by omega)) ?_
  exact v_ret rfl dX13_layOut_200 (Nat.le_of_ble_eq_true rfl) (Nat.le_of_ble_eq_true rfl) (by
        rw [nI_clamp (show 12 * r < 2 ^ 31 by omega), nI_clamp (show 12 * r + 1 < 2 ^ 31 by omega), nI_clamp (show 12 * r + 2 < 2 ^ 31 by omega), nI_clamp (show 12 * r + 3 < 2 ^ 31 by omega)]
        exact ⟨rfl, rfl, ⟨fs, (sv_un (by omega)).trans ((sv_un (by omega)).trans ((sv_un (by omega)).trans ((sv_un (by omega)).trans hm9))), hl, hE⟩, ⟨_, sv_us, (pk_uLn (by omega)).trans ((pk_uLn (by omega)).trans ((pk_uLn (by omega)).trans pk_uLs)), (pk_uLn (by omega)).trans ((pk_uLn (by omega)).trans pk_uLs), (pk_uLn (by omega)).trans pk_uLs, pk_uLs, fun a p => (pk_uLn (by omega)).trans ((pk_uLn (by omega)).trans ((pk_uLn (by omega)).trans (pk_uLn (by omega))))⟩, fun a p1 p2 => (sv_un p2).trans ((sv_un p2).trans ((sv_un p2).trans ((sv_un p2).trans (fr a p1))))⟩)

set_option maxHeartbeats 4000000 in
set_option maxRecDepth 100000 in
theorem t_lw61 (G : sv_G) (z b nc np pl : Nat) (R : Nat → Bool) (hm p3 p4 sz : Nat → Nat) (ly vo : Nat → Int32) (mp : Nat → mvT) (X Y : Nat → Nat → Int) (hb : sv_h) (fs0 : List Value) (hq0 : mfq_ b nc np pl fs0) (MY : myl_ G hb b nc np pl R hm p3 p4 sz ly vo mp X Y) (wv : List Nat) (how : ∀ i, i ∈ wv → i < pl) (d : Nat) (hd : d ≤ wv.length) (hw16 : wv.length ≤ 16) (mo : Value) (o : Nat) (fw : Nat → Int32) (o3 : ab_I G hb (b + 246) 1616 fw) (hmo : 0 < d → mo = .int (nI o) ∧ o ≤ 100 ∧ ∀ e, e < wv.length → fw (16 * o + e) = nI (wv.getD e 0)) (h60 : fs0[60]? = some mo) (h61 : fs0[61]? = some (.int (nI d))) (r : Nat) (hr : r < 1500) (hm0 : hb (b + 220) = some (.inr (11, fs0))) (gt : Nat → Int64) (h41 : ab_J G hb (b + 241) 36048 gt) (x0 y0 x1 y1 : Int) (q8 : gt (12 * r + 8) = jN x0) (q9 : gt (12 * r + 9) = jN y0) (q10 : gt (12 * r + 10) = jN x1) (q11 : gt (12 * r + 11) = jN y1) (c0 : -1000000000 ≤ (mvA (mvW mp (wv.take d)) (x0, y0)).1 ∧ (mvA (mvW mp (wv.take d)) (x0, y0)).1 ≤ 1000000000) (c1 : -1000000000 ≤ (mvA (mvW mp (wv.take d)) (x0, y0)).2 ∧ (mvA (mvW mp (wv.take d)) (x0, y0)).2 ≤ 1000000000) (c2 : -1000000000 ≤ (mvA (mvW mp (wv.take d)) (x1, y1)).1 ∧ (mvA (mvW mp (wv.take d)) (x1, y1)).1 ≤ 1000000000) (c3 : -1000000000 ≤ (mvA (mvW mp (wv.take d)) (x1, y1)).2 ∧ (mvA (mvW mp (wv.take d)) (x1, y1)).2 ≤ 1000000000) (h : sv_h) (fs : List Value) (hm9 : h (b + 220) = some (.inr (11, fs))) (hl : fs.length = 71) (hE : fsE [52, 53] fs0 fs) (f_tx : fs[52]? = some (.long (jN (mvA (mvW mp (wv.take d)) (x0, y0)).1))) (f_ty : fs[53]? = some (.long (jN (mvA (mvW mp (wv.take d)) (x0, y0)).2))) (fr : (∀ a, a ≠ b + 220 → h a = hb a)) : V G mX13_layOut (sv_MQ G mX13_layOut (fun v h1 z1 => v = none ∧ z1 = z ∧ (∃ fs1, h1 (b + 220) = some (.inr (11, fs1)) ∧ fs1.length = 71 ∧ fsE [52, 53] fs0 fs1) ∧ (∃ gt1, ab_J G h1 (b + 241) 36048 gt1 ∧ gt1 (12 * r) = jN (min (mvA (mvW mp (wv.take d)) (x0, y0)).1 (mvA (mvW mp (wv.take d)) (x1, y1)).1) ∧ gt1 (12 * r + 1) = jN (min (mvA (mvW mp (wv.take d)) (x0, y0)).2 (mvA (mvW mp (wv.take d)) (x1, y1)).2) ∧ gt1 (12 * r + 2) = jN (max (mvA (mvW mp (wv.take d)) (x0, y0)).1 (mvA (mvW mp (wv.take d)) (x1, y1)).1) ∧ gt1 (12 * r + 3) = jN (max (mvA (mvW mp (wv.take d)) (x0, y0)).2 (mvA (mvW mp (wv.take d)) (x1, y1)).2) ∧ ∀ a, ¬ (12 * r ≤ a ∧ a < 12 * r + 4) → gt1 a = gt a) ∧ ∀ a, a ≠ b + 220 → a ≠ b + 241 → h1 a = hb a)) 61 [(1, .int (nI (12 * r))), (0, .ref (b + 220))] [] h z 0 0 := by
  obtain ⟨_, _, _, ⟨g3, y3, y3a⟩, ⟨g4, y4, y4a⟩, ⟨g5, y5, y5a⟩, ⟨_, y6, _⟩, ⟨_, y7, _⟩, ⟨g8, y8, y8a⟩, ⟨g9, y9, y9a⟩, ⟨gA, yA, yAa⟩, yB, yC, yD, yE, yF⟩ := id MY
  have hqf := hq0.to (S := [52, 53]) hl hE (by decide)
  have hlen : fs.length = 71 := hl
  have f_way := hqf.f_way
  have f_told := hqf.f_told
  have f_metOf : fs[60]? = some mo := (hE 60 (by decide)).trans h60
  have f_metDepth : fs[61]? = some (.int (nI d)) := (hE 61 (by decide)).trans h61
  have w246 : ab_I G h (b + 246) 1616 fw := (fr _ (by omega)).trans o3
  have w229 : ab_J G h (b + 229) 32 g8 := (fr _ (by omega)).trans y8
  have w230 : ab_J G h (b + 230) 32 g9 := (fr _ (by omega)).trans y9
  have w231 : ab_I G h (b + 231) 32 gA := (fr _ (by omega)).trans yA
  have w241 : ab_J G h (b + 241) 36048 gt := (fr _ (by omega)).trans h41
  have hdn : (wv.take d).drop d = [] := List.drop_eq_nil_of_le (by rw [List.length_take]; omega)
  refine v_aload_n dX13_layOut_61 rfl 1 rfl ?_
  refine v_getf 52 (ci := 11) (C := RX13) (T := TX13) (N := 71) rfl iwX13_layOut_X13 (Nat.le_of_ble_eq_true rfl) (by decide +kernel) dX13_layOut_62 (by repeat (first | with_reducible assumption | (with_reducible refine sv_us.trans ?_; exact rfl) | with_reducible refine (sv_un (by omega)).trans ?_)) (by repeat (first | with_reducible assumption | (with_reducible refine (sv_ls (by first | omega | (simp only [List.length_set]; omega))).trans ?_; exact rfl) | with_reducible refine (List.getElem?_set_ne (by decide)).trans ?_)) ?_
  refine v_lstore_n (L' := [(2, _), (1, _), (0, _)]) dX13_layOut_65 rfl (Nat.le_of_ble_eq_true rfl) rfl ?_
  refine v_aload_n dX13_layOut_66 rfl 2 rfl ?_
  refine v_getf 53 (ci := 11) (C := RX13) (T := TX13) (N := 71) rfl iwX13_layOut_X13 (Nat.le_of_ble_eq_true rfl) (by decide +kernel) dX13_layOut_67 (by repeat (first | with_reducible assumption | (with_reducible refine sv_us.trans ?_; exact rfl) | with_reducible refine (sv_un (by omega)).trans ?_)) (by repeat (first | with_reducible assumption | (with_reducible refine (sv_ls (by first | omega | (simp only [List.length_set]; omega))).trans ?_; exact rfl) | with_reducible refine (List.getElem?_set_ne (by decide)).trans ?_)) ?_
  refine v_lstore (L' := [(4, _), (2, _), (1, _), (0, _)]) dX13_layOut_70 (Nat.le_of_ble_eq_true rfl) rfl ?_
  refine v_aload_n dX13_layOut_72 rfl 3 rfl ?_
  refine v_aload_n dX13_layOut_73 rfl 3 rfl ?_
  refine v_getf 27 (ci := 11) (C := RX13) (T := TX13) (N := 71) rfl iwX13_layOut_X13 (Nat.le_of_ble_eq_true rfl) (by decide +kernel) dX13_layOut_74 (by repeat (first | with_reducible assumption | (with_reducible refine sv_us.trans ?_; exact rfl) | with_reducible refine (sv_un (by omega)).trans ?_)) (by repeat (first | with_reducible assumption | (with_reducible refine (sv_ls (by first | omega | (simp only [List.length_set]; omega))).trans ?_; exact rfl) | with_reducible refine (List.getElem?_set_ne (by decide)).trans ?_)) ?_
  refine v_iload_n dX13_layOut_77 rfl 2 rfl ?_
  refine v_bipush (v := 10) dX13_layOut_78 (by decide) ?_
  refine v_iadd dX13_layOut_80 ?_
  rw [sv_p10]
  refine v_laldS (v := jN x1) dX13_layOut_81 (by repeat (first | with_reducible assumption | (with_reducible refine sv_us.trans ?_; exact rfl) | with_reducible refine (sv_un (by omega)).trans ?_)) (vp_in_nI (by omega) (by omega)) (by rw [nI_clamp (by omega)]; exact q10) ?_
  refine v_putf 52 (fs' := _) (ci := 11) (C := RX13) (T := TX13) (N := 71) (ty := .long) rfl iwX13_layOut_X13 tyX13 tyX13_ok nmX13 (Nat.le_of_ble_eq_true rfl) (by decide +kernel) rfl rfl dX13_layOut_82 rfl rfl (by repeat (first | with_reducible assumption | (with_reducible refine sv_us.trans ?_; exact rfl) | with_reducible refine (sv_un (by omega)).trans ?_)) (by first | omega | (simp only [List.length_set]; omega)) rfl ?_
  refine v_aload_n dX13_layOut_85 rfl 3 rfl ?_
  refine v_aload_n dX13_layOut_86 rfl 3 rfl ?_
  refine v_getf 27 (ci := 11) (C := RX13) (T := TX13) (N := 71) rfl iwX13_layOut_X13 (Nat.le_of_ble_eq_true rfl) (by decide +kernel) dX13_layOut_87 (by repeat (first | with_reducible assumption | (with_reducible refine sv_us.trans ?_; exact rfl) | with_reducible refine (sv_un (by omega)).trans ?_)) (by repeat (first | with_reducible assumption | (with_reducible refine (sv_ls (by first | omega | (simp only [List.length_set]; omega))).trans ?_; exact rfl) | with_reducible refine (List.getElem?_set_ne (by decide)).trans ?_)) ?_
  refine v_iload_n dX13_layOut_90 rfl 2 rfl ?_
  refine v_bipush (v := 11) dX13_layOut_91 (by decide) ?_
  refine v_iadd dX13_layOut_93 ?_
  rw [sv_p11]
  refine v_laldS (v := jN y1) dX13_layOut_94 (by repeat (first | with_reducible assumption | (with_reducible refine sv_us.trans ?_; exact rfl) | with_reducible refine (sv_un (by omega)).trans ?_)) (vp_in_nI (by omega) (by omega)) (by rw [nI_clamp (by omega)]; exact q11) ?_
  refine v_putf 53 (fs' := _) (ci := 11) (C := RX13) (T := TX13) (N := 71) (ty := .long) rfl iwX13_layOut_X13 tyX13 tyX13_ok nmX13 (Nat.le_of_ble_eq_true rfl) (by decide +kernel) rfl rfl dX13_layOut_95 rfl rfl (by repeat (first | with_reducible assumption | (with_reducible refine sv_us.trans ?_; exact rfl) | with_reducible refine (sv_un (by omega)).trans ?_)) (by first | omega | (simp only [List.length_set]; omega)) rfl ?_
  refine v_aload_n dX13_layOut_98 rfl 3 rfl ?_
  refine v_getf 61 (ci := 11) (C := RX13) (T := TX13) (N := 71) rfl iwX13_layOut_X13 (Nat.le_of_ble_eq_true rfl) (by decide +kernel) dX13_layOut_99 (by repeat (first | with_reducible assumption | (with_reducible refine sv_us.trans ?_; exact rfl) | with_reducible refine (sv_un (by omega)).trans ?_)) (by repeat (first | with_reducible assumption | (with_reducible refine (sv_ls (by first | omega | (simp only [List.length_set]; omega))).trans ?_; exact rfl) | with_reducible refine (List.getElem?_set_ne (by decide)).trans ?_)) ?_
  refine v_iconst (v := 1) dX13_layOut_102 (by decide) ?_
  refine v_isub dX13_layOut_103 ?_
  rw [show nI d - 1 = iN ((d : Int) - 1) from by rw [iN_sub]; rfl]
  refine v_istore (L' := [(6, _), (4, _), (2, _), (1, _), (0, _)]) dX13_layOut_104 (Nat.le_of_ble_eq_true rfl) rfl ?_
  refine v_sub (L' := [(6, _), (4, _), (2, _), (1, _), (0, _)]) [0, 1, 2, 3, 4] rfl ?_
  exact l_lw106 G _ _ b nc np pl R hm p3 p4 sz ly vo mp X Y hb fs0 hq0 MY wv how d hd hw16 mo o fw o3 hmo h60 h61 r _ _ x1 y1 (fun h2 fs2 v1 v2 v3 v4 v5 v6 => t_lw136 G _ b nc np pl R hm p3 p4 sz ly vo mp X Y hb fs0 hq0 MY wv how d hd hw16 mo o fw o3 hmo h60 h61 r hr hm0 gt h41 x0 y0 x1 y1 q8 q9 q10 q11 c0 c1 c2 c3 h2 fs2 v1 v2 v3 v4 v5 v6) d _ _ (Nat.le_refl d) sv_us (by rw [List.length_set, List.length_set]; exact hl) ((hE.st (by decide)).st (by decide)) (by rw [hdn, show mvW mp [] = mvI from rfl, mvI_A]; exact (List.getElem?_set_ne (by decide)).trans (sv_ls (by omega))) (by rw [hdn, show mvW mp [] = mvI from rfl, mvI_A]; exact sv_ls (by rw [List.length_set]; omega)) (fun a p => (sv_un p).trans ((sv_un p).trans (fr a p)))

set_option maxHeartbeats 4000000 in
set_option maxRecDepth 100000 in
theorem m_layOutW (G : sv_G) (z b nc np pl : Nat) (R : Nat → Bool) (hm p3 p4 sz : Nat → Nat) (ly vo : Nat → Int32) (mp : Nat → mvT) (X Y : Nat → Nat → Int) (hb : sv_h) (fs0 : List Value) (hq0 : mfq_ b nc np pl fs0) (MY : myl_ G hb b nc np pl R hm p3 p4 sz ly vo mp X Y) (wv : List Nat) (how : ∀ i, i ∈ wv → i < pl) (d : Nat) (hd : d ≤ wv.length) (hw16 : wv.length ≤ 16) (mo : Value) (o : Nat) (fw : Nat → Int32) (o3 : ab_I G hb (b + 246) 1616 fw) (hmo : 0 < d → mo = .int (nI o) ∧ o ≤ 100 ∧ ∀ e, e < wv.length → fw (16 * o + e) = nI (wv.getD e 0)) (h60 : fs0[60]? = some mo) (h61 : fs0[61]? = some (.int (nI d))) (r : Nat) (hr : r < 1500) (hm0 : hb (b + 220) = some (.inr (11, fs0))) (gt : Nat → Int64) (h41 : ab_J G hb (b + 241) 36048 gt) (x0 y0 x1 y1 : Int) (q8 : gt (12 * r + 8) = jN x0) (q9 : gt (12 * r + 9) = jN y0) (q10 : gt (12 * r + 10) = jN x1) (q11 : gt (12 * r + 11) = jN y1) (c0 : -1000000000 ≤ (mvA (mvW mp (wv.take d)) (x0, y0)).1 ∧ (mvA (mvW mp (wv.take d)) (x0, y0)).1 ≤ 1000000000) (c1 : -1000000000 ≤ (mvA (mvW mp (wv.take d)) (x0, y0)).2 ∧ (mvA (mvW mp (wv.take d)) (x0, y0)).2 ≤ 1000000000) (c2 : -1000000000 ≤ (mvA (mvW mp (wv.take d)) (x1, y1)).1 ∧ (mvA (mvW mp (wv.take d)) (x1, y1)).1 ≤ 1000000000) (c3 : -1000000000 ≤ (mvA (mvW mp (wv.take d)) (x1, y1)).2 ∧ (mvA (mvW mp (wv.take d)) (x1, y1)).2 ≤ 1000000000) : CT G mX13_layOut [.ref (b + 220), .int (nI (12 * r))] hb z (fun v h1 z1 => v = none ∧ z1 = z ∧ (∃ fs1, h1 (b + 220) = some (.inr (11, fs1)) ∧ fs1.length = 71 ∧ fsE [52, 53] fs0 fs1) ∧ (∃ gt1, ab_J G h1 (b + 241) 36048 gt1 ∧ gt1 (12 * r) = jN (min (mvA (mvW mp (wv.take d)) (x0, y0)).1 (mvA (mvW mp (wv.take d)) (x1, y1)).1) ∧ gt1 (12 * r + 1) = jN (min (mvA (mvW mp (wv.take d)) (x0, y0)).2 (mvA (mvW mp (wv.take d)) (x1, y1)).2) ∧ gt1 (12 * r + 2) = jN (max (mvA (mvW mp (wv.take d)) (x0, y0)).1 (mvA (mvW mp (wv.take d)) (x1, y1)).1) ∧ gt1 (12 * r + 3) = jN (max (mvA (mvW mp (wv.take d)) (x0, y0)).2 (mvA (mvW mp (wv.take d)) (x1, y1)).2) ∧ ∀ a, ¬ (12 * r ≤ a ∧ a < 12 * r + 4) → gt1 a = gt a) ∧ ∀ a, a ≠ b + 220 → a ≠ b + 241 → h1 a = hb a) := by
  refine CT.of (by decide +kernel) rfl rfl (Nat.le_of_ble_eq_true rfl) ?_
  have hl := hq0.1
  have hE : fsE [52, 53] fs0 fs0 := fsE.rf
  have fr : ∀ a, a ≠ b + 220 → hb a = hb a := fun _ _ => rfl
  obtain ⟨_, _, _, ⟨g3, y3, y3a⟩, ⟨g4, y4, y4a⟩, ⟨g5, y5, y5a⟩, ⟨_, y6, _⟩, ⟨_, y7, _⟩, ⟨g8, y8, y8a⟩, ⟨g9, y9, y9a⟩, ⟨gA, yA, yAa⟩, yB, yC, yD, yE, yF⟩ := id MY
  have hqf := hq0.to (S := [52, 53]) hl hE (by decide)
  have hlen : fs0.length = 71 := hl
  have f_way := hqf.f_way
  have f_told := hqf.f_told
  have f_metOf : fs0[60]? = some mo := (hE 60 (by decide)).trans h60
  have f_metDepth : fs0[61]? = some (.int (nI d)) := (hE 61 (by decide)).trans h61
  have w246 : ab_I G hb (b + 246) 1616 fw := (fr _ (by omega)).trans o3
  have w229 : ab_J G hb (b + 229) 32 g8 := (fr _ (by omega)).trans y8
  have w230 : ab_J G hb (b + 230) 32 g9 := (fr _ (by omega)).trans y9
  have w231 : ab_I G hb (b + 231) 32 gA := (fr _ (by omega)).trans yA
  have hdn : (wv.take d).drop d = [] := List.drop_eq_nil_of_le (by rw [List.length_take]; omega)
  refine v_aload_n dX13_layOut_0 rfl 0 rfl ?_
  refine v_aload_n dX13_layOut_1 rfl 0 rfl ?_
  refine v_getf 27 (ci := 11) (C := RX13) (T := TX13) (N := 71) rfl iwX13_layOut_X13 (Nat.le_of_ble_eq_true rfl) (by decide +kernel) dX13_layOut_2 (by repeat (first | with_reducible assumption | (with_reducible refine sv_us.trans ?_; exact rfl) | with_reducible refine (sv_un (by omega)).trans ?_)) (by repeat (first | with_reducible assumption | (with_reducible refine (sv_ls (by first | omega | (simp only [List.length_set]; omega))).trans ?_; exact rfl) | with_reducible refine (List.getElem?_set_ne (by decide)).trans ?_)) ?_
  refine v_iload_n dX13_layOut_5 rfl 1 rfl ?_
  refine v_bipush (v := 8) dX13_layOut_6 (by decide) ?_
  refine v_iadd dX13_layOut_8 ?_
  rw [sv_p8]
  refine v_laldS (v := jN x0) dX13_layOut_9 (by repeat (first | with_reducible assumption | (with_reducible refine sv_us.trans ?_; exact rfl) | with_reducible refine (sv_un (by omega)).trans ?_)) (vp_in_nI (by omega) (by omega)) (by rw [nI_clamp (by omega)]; exact q8) ?_
  refine v_putf 52 (fs' := _) (ci := 11) (C := RX13) (T := TX13) (N := 71) (ty := .long) rfl iwX13_layOut_X13 tyX13 tyX13_ok nmX13 (Nat.le_of_ble_eq_true rfl) (by decide +kernel) rfl rfl dX13_layOut_10 rfl rfl (by repeat (first | with_reducible assumption | (with_reducible refine sv_us.trans ?_; exact rfl) | with_reducible refine (sv_un (by omega)).trans ?_)) (by first | omega | (simp only [List.length_set]; omega)) rfl ?_
  refine v_aload_n dX13_layOut_13 rfl 0 rfl ?_
  refine v_aload_n dX13_layOut_14 rfl 0 rfl ?_
  refine v_getf 27 (ci := 11) (C := RX13) (T := TX13) (N := 71) rfl iwX13_layOut_X13 (Nat.le_of_ble_eq_true rfl) (by decide +kernel) dX13_layOut_15 (by repeat (first | with_reducible assumption | (with_reducible refine sv_us.trans ?_; exact rfl) | with_reducible refine (sv_un (by omega)).trans ?_)) (by repeat (first | with_reducible assumption | (with_reducible refine (sv_ls (by first | omega | (simp only [List.length_set]; omega))).trans ?_; exact rfl) | with_reducible refine (List.getElem?_set_ne (by decide)).trans ?_)) ?_
  refine v_iload_n dX13_layOut_18 rfl 1 rfl ?_
  refine v_bipush (v := 9) dX13_layOut_19 (by decide) ?_
  refine v_iadd dX13_layOut_21 ?_
  rw [sv_p9]
  refine v_laldS (v := jN y0) dX13_layOut_22 (by repeat (first | with_reducible assumption | (with_reducible refine sv_us.trans ?_; exact rfl) | with_reducible refine (sv_un (by omega)).trans ?_)) (vp_in_nI (by omega) (by omega)) (by rw [nI_clamp (by omega)]; exact q9) ?_
  refine v_putf 53 (fs' := _) (ci := 11) (C := RX13) (T := TX13) (N := 71) (ty := .long) rfl iwX13_layOut_X13 tyX13 tyX13_ok nmX13 (Nat.le_of_ble_eq_true rfl) (by decide +kernel) rfl rfl dX13_layOut_23 rfl rfl (by repeat (first | with_reducible assumption | (with_reducible refine sv_us.trans ?_; exact rfl) | with_reducible refine (sv_un (by omega)).trans ?_)) (by first | omega | (simp only [List.length_set]; omega)) rfl ?_
  refine v_aload_n dX13_layOut_26 rfl 0 rfl ?_
  refine v_getf 61 (ci := 11) (C := RX13) (T := TX13) (N := 71) rfl iwX13_layOut_X13 (Nat.le_of_ble_eq_true rfl) (by decide +kernel) dX13_layOut_27 (by repeat (first | with_reducible assumption | (with_reducible refine sv_us.trans ?_; exact rfl) | with_reducible refine (sv_un (by omega)).trans ?_)) (by repeat (first | with_reducible assumption | (with_reducible refine (sv_ls (by first | omega | (simp only [List.length_set]; omega))).trans ?_; exact rfl) | with_reducible refine (List.getElem?_set_ne (by decide)).trans ?_)) ?_
  refine v_iconst (v := 1) dX13_layOut_30 (by decide) ?_
  refine v_isub dX13_layOut_31 ?_
  rw [show nI d - 1 = iN ((d : Int) - 1) from by rw [iN_sub]; rfl]
  refine v_istore_n (L' := [(2, _), (0, _), (1, _)]) dX13_layOut_32 rfl (Nat.le_of_ble_eq_true rfl) rfl ?_
  refine v_sub (L' := [(2, _), (1, _), (0, _)]) [0, 2, 1] rfl ?_
  exact l_lw33 G _ _ b nc np pl R hm p3 p4 sz ly vo mp X Y hb fs0 hq0 MY wv how d hd hw16 mo o fw o3 hmo h60 h61 r x0 y0 (fun h2 fs2 v1 v2 v3 v4 v5 v6 => t_lw61 G _ b nc np pl R hm p3 p4 sz ly vo mp X Y hb fs0 hq0 MY wv how d hd hw16 mo o fw o3 hmo h60 h61 r hr hm0 gt h41 x0 y0 x1 y1 q8 q9 q10 q11 c0 c1 c2 c3 h2 fs2 v1 v2 v3 v4 v5 v6) d _ _ (Nat.le_refl d) sv_us (by rw [List.length_set, List.length_set]; exact hl) ((fsE.rf.st (by decide)).st (by decide)) (by rw [hdn, show mvW mp [] = mvI from rfl, mvI_A]; exact (List.getElem?_set_ne (by decide)).trans (sv_ls (by omega))) (by rw [hdn, show mvW mp [] = mvI from rfl, mvI_A]; exact sv_ls (by rw [List.length_set]; omega)) (fun a p => (sv_un p).trans (sv_un p))

set_option maxHeartbeats 4000000 in
set_option maxRecDepth 100000 in
theorem m_tellW (G : sv_G) (z b nc np pl : Nat) (R : Nat → Bool) (hm p3 p4 sz : Nat → Nat) (ly vo : Nat → Int32) (mp : Nat → mvT) (X Y : Nat → Nat → Int) (hb : sv_h) (fs0 : List Value) (hq0 : mfq_ b nc np pl fs0) (MY : myl_ G hb b nc np pl R hm p3 p4 sz ly vo mp X Y) (wv : List Nat) (how : ∀ i, i ∈ wv → i < pl) (d : Nat) (hd : d ≤ wv.length) (hw16 : wv.length ≤ 16) (mo : Value) (o : Nat) (fw : Nat → Int32) (o3 : ab_I G hb (b + 246) 1616 fw) (hmo : 0 < d → mo = .int (nI o) ∧ o ≤ 100 ∧ ∀ e, e < wv.length → fw (16 * o + e) = nI (wv.getD e 0)) (h60 : fs0[60]? = some mo) (h61 : fs0[61]? = some (.int (nI d))) (hm0 : hb (b + 220) = some (.inr (11, fs0))) (gt : Nat → Int64) (h41 : ab_J G hb (b + 241) 36048 gt) (mc : Nat) (hmc : mc < 100) (h62 : fs0[62]? = some (.int (nI mc))) (r : Nat) (hr : r < 1500) (h28 : fs0[28]? = some (.int (nI r))) (x0 y0 x1 y1 a c m : Int) (ha : -1000000 ≤ a ∧ a ≤ 1000000) (hc : -1000000 ≤ c ∧ c ≤ 1000000) (b0 : -1000000000 ≤ x0 ∧ x0 ≤ 1000000000) (b1 : -1000000000 ≤ y0 ∧ y0 ≤ 1000000000) (b2 : -1000000000 ≤ x1 ∧ x1 ≤ 1000000000) (b3 : -1000000000 ≤ y1 ∧ y1 ≤ 1000000000) (c0 : -1000000000 ≤ (mvA (mvW mp (wv.take d)) (x0, y0)).1 ∧ (mvA (mvW mp (wv.take d)) (x0, y0)).1 ≤ 1000000000) (c1 : -1000000000 ≤ (mvA (mvW mp (wv.take d)) (x0, y0)).2 ∧ (mvA (mvW mp (wv.take d)) (x0, y0)).2 ≤ 1000000000) (c2 : -1000000000 ≤ (mvA (mvW mp (wv.take d)) (x1, y1)).1 ∧ (mvA (mvW mp (wv.take d)) (x1, y1)).1 ≤ 1000000000) (c3 : -1000000000 ≤ (mvA (mvW mp (wv.take d)) (x1, y1)).2 ∧ (mvA (mvW mp (wv.take d)) (x1, y1)).2 ≤ 1000000000) : CT G mX13_tell [.ref (b + 220), .long (jN x0), .long (jN y0), .long (jN x1), .long (jN y1), .int (iN a), .int (iN c), .long (jN m)] hb z (fun v h1 z1 => v = none ∧ z1 = z ∧ (∃ fs1, h1 (b + 220) = some (.inr (11, fs1)) ∧ fs1.length = 71 ∧ fsE [28, 52, 53] fs0 fs1 ∧ fs1[28]? = some (.int (nI (r + 1)))) ∧ (∃ gt1, ab_J G h1 (b + 241) 36048 gt1 ∧ (∀ j, j < 12 → gt1 (12 * r + j) = (mvR (mvW mp (wv.take d)) (rwI x0 y0 x1 y1 a c m (mc : Int))).getD j 0) ∧ ∀ a, ¬ (12 * r ≤ a ∧ a < 12 * r + 12) → gt1 a = gt a) ∧ ∀ a, a ≠ b + 220 → a ≠ b + 241 → h1 a = hb a) := by
  refine CT.of (by decide +kernel) rfl rfl (Nat.le_of_ble_eq_true rfl) ?_
  have hlen : fs0.length = 71 := hq0.1
  have f_told := hq0.f_told
  refine v_aload_n dX13_tell_0 rfl 0 rfl ?_
  refine v_getf 28 (ci := 11) (C := RX13) (T := TX13) (N := 71) rfl iwX13_tell_X13 (Nat.le_of_ble_eq_true rfl) (by decide +kernel) dX13_tell_1 (by repeat (first | with_reducible assumption | (with_reducible refine sv_us.trans ?_; exact rfl) | with_reducible refine (sv_un (by omega)).trans ?_)) (by repeat (first | with_reducible assumption | (with_reducible refine (sv_ls (by first | omega | (simp only [List.length_set]; omega))).trans ?_; exact rfl) | with_reducible refine (List.getElem?_set_ne (by decide)).trans ?_)) ?_
  refine v_sipush (v := 1500) dX13_tell_4 (by decide) ?_
  refine v_icmp_ne (tgt := 16) dX13_tell_7 (by decide) (fun c_7 => ?_) (fun c_7 => ?_)
  · refine v_bipush (v := 12) dX13_tell_16 (by decide) ?_
    refine v_aload_n dX13_tell_18 rfl 0 rfl ?_
    refine v_getf 28 (ci := 11) (C := RX13) (T := TX13) (N := 71) rfl iwX13_tell_X13 (Nat.le_of_ble_eq_true rfl) (by decide +kernel) dX13_tell_19 (by repeat (first | with_reducible assumption | (with_reducible refine sv_us.trans ?_; exact rfl) | with_reducible refine (sv_un (by omega)).trans ?_)) (by repeat (first | with_reducible assumption | (with_reducible refine (sv_ls (by first | omega | (simp only [List.length_set]; omega))).trans ?_; exact rfl) | with_reducible refine (List.getElem?_set_ne (by decide)).trans ?_)) ?_
    refine v_imul dX13_tell_22 ?_
    rw [sv_12m]
    refine v_istore (L' := [(13, _), (0, _), (1, _), (3, _), (5, _), (7, _), (9, _), (10, _), (11, _)]) dX13_tell_23 (Nat.le_of_ble_eq_true rfl) rfl ?_
    refine v_aload_n dX13_tell_25 rfl 1 rfl ?_
    refine v_dup dX13_tell_26 rfl ?_
    refine v_getf 28 (ci := 11) (C := RX13) (T := TX13) (N := 71) rfl iwX13_tell_X13 (Nat.le_of_ble_eq_true rfl) (by decide +kernel) dX13_tell_27 (by repeat (first | with_reducible assumption | (with_reducible refine sv_us.trans ?_; exact rfl) | with_reducible refine (sv_un (by omega)).trans ?_)) (by repeat (first | with_reducible assumption | (with_reducible refine (sv_ls (by first | omega | (simp only [List.length_set]; omega))).trans ?_; exact rfl) | with_reducible refine (List.getElem?_set_ne (by decide)).trans ?_)) ?_
    refine v_iconst (v := 1) dX13_tell_30 (by decide) ?_
    refine v_iadd dX13_tell_31 ?_
    rw [nI_1]
    refine v_putf 28 (fs' := _) (ci := 11) (C := RX13) (T := TX13) (N := 71) (ty := .int) rfl iwX13_tell_X13 tyX13 tyX13_ok nmX13 (Nat.le_of_ble_eq_true rfl) (by decide +kernel) rfl rfl dX13_tell_32 rfl rfl (by repeat (first | with_reducible assumption | (with_reducible refine sv_us.trans ?_; exact rfl) | with_reducible refine (sv_un (by omega)).trans ?_)) (by first | omega | (simp only [List.length_set]; omega)) rfl ?_
    refine v_aload_n dX13_tell_35 rfl 1 rfl ?_
    refine v_getf 27 (ci := 11) (C := RX13) (T := TX13) (N := 71) rfl iwX13_tell_X13 (Nat.le_of_ble_eq_true rfl) (by decide +kernel) dX13_tell_36 (by repeat (first | with_reducible assumption | (with_reducible refine sv_us.trans ?_; exact rfl) | with_reducible refine (sv_un (by omega)).trans ?_)) (by repeat (first | with_reducible assumption | (with_reducible refine (sv_ls (by first | omega | (simp only [List.length_set]; omega))).trans ?_; exact rfl) | with_reducible refine (List.getElem?_set_ne (by decide)).trans ?_)) ?_
    refine v_iload dX13_tell_39 0 rfl ?_
    refine v_bipush (v := 8) dX13_tell_41 (by decide) ?_
    refine v_iadd dX13_tell_43 ?_
    refine v_lload_n dX13_tell_44 rfl 2 rfl ?_
    rw [sv_p8]
    refine v_last dX13_tell_45 (by repeat (first | with_reducible assumption | (with_reducible refine sv_us.trans ?_; exact rfl) | with_reducible refine (sv_un (by omega)).trans ?_)) (vp_in_nI (by omega) (by omega)) ?_
    refine v_aload_n dX13_tell_46 rfl 1 rfl ?_
    refine v_getf 27 (ci := 11) (C := RX13) (T := TX13) (N := 71) rfl iwX13_tell_X13 (Nat.le_of_ble_eq_true rfl) (by decide +kernel) dX13_tell_47 (by repeat (first | with_reducible assumption | (with_reducible refine sv_us.trans ?_; exact rfl) | with_reducible refine (sv_un (by omega)).trans ?_)) (by repeat (first | with_reducible assumption | (with_reducible refine (sv_ls (by first | omega | (simp only [List.length_set]; omega))).trans ?_; exact rfl) | with_reducible refine (List.getElem?_set_ne (by decide)).trans ?_)) ?_
    refine v_iload dX13_tell_50 0 rfl ?_
    refine v_bipush (v := 9) dX13_tell_52 (by decide) ?_
    refine v_iadd dX13_tell_54 ?_
    refine v_lload_n dX13_tell_55 rfl 3 rfl ?_
    rw [sv_p9]
    refine v_last dX13_tell_56 (by repeat (first | with_reducible assumption | (with_reducible refine sv_us.trans ?_; exact rfl) | with_reducible refine (sv_un (by omega)).trans ?_)) (vp_in_nI (by omega) (by omega)) ?_
    refine v_aload_n dX13_tell_57 rfl 1 rfl ?_
    refine v_getf 27 (ci := 11) (C := RX13) (T := TX13) (N := 71) rfl iwX13_tell_X13 (Nat.le_of_ble_eq_true rfl) (by decide +kernel) dX13_tell_58 (by repeat (first | with_reducible assumption | (with_reducible refine sv_us.trans ?_; exact rfl) | with_reducible refine (sv_un (by omega)).trans ?_)) (by repeat (first | with_reducible assumption | (with_reducible refine (sv_ls (by first | omega | (simp only [List.length_set]; omega))).trans ?_; exact rfl) | with_reducible refine (List.getElem?_set_ne (by decide)).trans ?_)) ?_
    refine v_iload dX13_tell_61 0 rfl ?_
    refine v_bipush (v := 10) dX13_tell_63 (by decide) ?_
    refine v_iadd dX13_tell_65 ?_
    refine v_lload dX13_tell_66 4 rfl ?_
    rw [sv_p10]
    refine v_last dX13_tell_68 (by repeat (first | with_reducible assumption | (with_reducible refine sv_us.trans ?_; exact rfl) | with_reducible refine (sv_un (by omega)).trans ?_)) (vp_in_nI (by omega) (by omega)) ?_
    refine v_aload_n dX13_tell_69 rfl 1 rfl ?_
    refine v_getf 27 (ci := 11) (C := RX13) (T := TX13) (N := 71) rfl iwX13_tell_X13 (Nat.le_of_ble_eq_true rfl) (by decide +kernel) dX13_tell_70 (by repeat (first | with_reducible assumption | (with_reducible refine sv_us.trans ?_; exact rfl) | with_reducible refine (sv_un (by omega)).trans ?_)) (by repeat (first | with_reducible assumption | (with_reducible refine (sv_ls (by first | omega | (simp only [List.length_set]; omega))).trans ?_; exact rfl) | with_reducible refine (List.getElem?_set_ne (by decide)).trans ?_)) ?_
    refine v_iload dX13_tell_73 0 rfl ?_
    refine v_bipush (v := 11) dX13_tell_75 (by decide) ?_
    refine v_iadd dX13_tell_77 ?_
    refine v_lload dX13_tell_78 5 rfl ?_
    rw [sv_p11]
    refine v_last dX13_tell_80 (by repeat (first | with_reducible assumption | (with_reducible refine sv_us.trans ?_; exact rfl) | with_reducible refine (sv_un (by omega)).trans ?_)) (vp_in_nI (by omega) (by omega)) ?_
    refine v_aload_n dX13_tell_81 rfl 1 rfl ?_
    refine v_getf 27 (ci := 11) (C := RX13) (T := TX13) (N := 71) rfl iwX13_tell_X13 (Nat.le_of_ble_eq_true rfl) (by decide +kernel) dX13_tell_82 (by repeat (first | with_reducible assumption | (with_reducible refine sv_us.trans ?_; exact rfl) | with_reducible refine (sv_un (by omega)).trans ?_)) (by repeat (first | with_reducible assumption | (with_reducible refine (sv_ls (by first | omega | (simp only [List.length_set]; omega))).trans ?_; exact rfl) | with_reducible refine (List.getElem?_set_ne (by decide)).trans ?_)) ?_
    refine v_iload dX13_tell_85 0 rfl ?_
    refine v_iconst (v := 4) dX13_tell_87 (by decide) ?_
    refine v_iadd dX13_tell_88 ?_
    refine v_iload dX13_tell_89 6 rfl ?_
    refine v_i2l dX13_tell_91 rfl ?_
    rw [sv_p4, iN_64 (x := a) (by omega) (by omega)]
    refine v_last dX13_tell_92 (by repeat (first | with_reducible assumption | (with_reducible refine sv_us.trans ?_; exact rfl) | with_reducible refine (sv_un (by omega)).trans ?_)) (vp_in_nI (by omega) (by omega)) ?_
    refine v_aload_n dX13_tell_93 rfl 1 rfl ?_
    refine v_getf 27 (ci := 11) (C := RX13) (T := TX13) (N := 71) rfl iwX13_tell_X13 (Nat.le_of_ble_eq_true rfl) (by decide +kernel) dX13_tell_94 (by repeat (first | with_reducible assumption | (with_reducible refine sv_us.trans ?_; exact rfl) | with_reducible refine (sv_un (by omega)).trans ?_)) (by repeat (first | with_reducible assumption | (with_reducible refine (sv_ls (by first | omega | (simp only [List.length_set]; omega))).trans ?_; exact rfl) | with_reducible refine (List.getElem?_set_ne (by decide)).trans ?_)) ?_
    refine v_iload dX13_tell_97 0 rfl ?_
    refine v_iconst (v := 5) dX13_tell_99 (by decide) ?_
    refine v_iadd dX13_tell_100 ?_
    refine v_iload dX13_tell_101 7 rfl ?_
    refine v_i2l dX13_tell_103 rfl ?_
    rw [sv_p5, iN_64 (x := c) (by omega) (by omega)]
    refine v_last dX13_tell_104 (by repeat (first | with_reducible assumption | (with_reducible refine sv_us.trans ?_; exact rfl) | with_reducible refine (sv_un (by omega)).trans ?_)) (vp_in_nI (by omega) (by omega)) ?_
    refine v_aload_n dX13_tell_105 rfl 1 rfl ?_
    refine v_getf 27 (ci := 11) (C := RX13) (T := TX13) (N := 71) rfl iwX13_tell_X13 (Nat.le_of_ble_eq_true rfl) (by decide +kernel) dX13_tell_106 (by repeat (first | with_reducible assumption | (with_reducible refine sv_us.trans ?_; exact rfl) | with_reducible refine (sv_un (by omega)).trans ?_)) (by repeat (first | with_reducible assumption | (with_reducible refine (sv_ls (by first | omega | (simp only [List.length_set]; omega))).trans ?_; exact rfl) | with_reducible refine (List.getElem?_set_ne (by decide)).trans ?_)) ?_
    refine v_iload dX13_tell_109 0 rfl ?_
    refine v_bipush (v := 6) dX13_tell_111 (by decide) ?_
    refine v_iadd dX13_tell_113 ?_
    refine v_lload dX13_tell_114 8 rfl ?_
    rw [sv_p6]
    refine v_last dX13_tell_116 (by repeat (first | with_reducible assumption | (with_reducible refine sv_us.trans ?_; exact rfl) | with_reducible refine (sv_un (by omega)).trans ?_)) (vp_in_nI (by omega) (by omega)) ?_
    refine v_aload_n dX13_tell_117 rfl 1 rfl ?_
    refine v_getf 27 (ci := 11) (C := RX13) (T := TX13) (N := 71) rfl iwX13_tell_X13 (Nat.le_of_ble_eq_true rfl) (by decide +kernel) dX13_tell_118 (by repeat (first | with_reducible assumption | (with_reducible refine sv_us.trans ?_; exact rfl) | with_reducible refine (sv_un (by omega)).trans ?_)) (by repeat (first | with_reducible assumption | (with_reducible refine (sv_ls (by first | omega | (simp only [List.length_set]; omega))).trans ?_; exact rfl) | with_reducible refine (List.getElem?_set_ne (by decide)).trans ?_)) ?_
    refine v_iload dX13_tell_121 0 rfl ?_
    refine v_bipush (v := 7) dX13_tell_123 (by decide) ?_
    refine v_iadd dX13_tell_125 ?_
    refine v_aload_n dX13_tell_126 rfl 1 rfl ?_
    refine v_getf 62 (ci := 11) (C := RX13) (T := TX13) (N := 71) rfl iwX13_tell_X13 (Nat.le_of_ble_eq_true rfl) (by decide +kernel) dX13_tell_127 (by repeat (first | with_reducible assumption | (with_reducible refine sv_us.trans ?_; exact rfl) | with_reducible refine (sv_un (by omega)).trans ?_)) (by repeat (first | with_reducible assumption | (with_reducible refine (sv_ls (by first | omega | (simp only [List.length_set]; omega))).trans ?_; exact rfl) | with_reducible refine (List.getElem?_set_ne (by decide)).trans ?_)) ?_
    refine v_i2l dX13_tell_130 rfl ?_
    rw [sv_p7, show (nI mc).toInt64 = jN (mc : Int) from iN_64 (x := (mc : Int)) (by omega) (by omega)]
    refine v_last dX13_tell_131 (by repeat (first | with_reducible assumption | (with_reducible refine sv_us.trans ?_; exact rfl) | with_reducible refine (sv_un (by omega)).trans ?_)) (vp_in_nI (by omega) (by omega)) ?_
    rw [nI_clamp (show 12 * r + 8 < 2 ^ 31 by omega), nI_clamp (show 12 * r + 9 < 2 ^ 31 by omega), nI_clamp (show 12 * r + 10 < 2 ^ 31 by omega), nI_clamp (show 12 * r + 11 < 2 ^ 31 by omega), nI_clamp (show 12 * r + 4 < 2 ^ 31 by omega), nI_clamp (show 12 * r + 5 < 2 ^ 31 by omega), nI_clamp (show 12 * r + 6 < 2 ^ 31 by omega), nI_clamp (show 12 * r + 7 < 2 ^ 31 by omega)]
    refine v_aload_n dX13_tell_132 rfl 1 rfl ?_
    refine v_iload dX13_tell_133 0 rfl ?_
    refine v_callVq (M' := mX13_layOut) (n := 1) (As := [_]) (ci := 11) (r := (RX13, TX13, 71)) gX13_tell_X13_layOut rfl (by decide +kernel) ⟨(Nat.le_of_ble_eq_true rfl), (Nat.le_of_ble_eq_true rfl)⟩ rfl rfl dX13_tell_135 rfl ⟨(Nat.le_of_ble_eq_true rfl), (Nat.le_of_ble_eq_true rfl)⟩ (Nat.le_of_ble_eq_true rfl) (by repeat (first | with_reducible assumption | (with_reducible refine sv_us.trans ?_; exact rfl) | with_reducible refine (sv_un (by omega)).trans ?_)) rfl (m_layOutW G _ b nc np pl R hm p3 p4 sz ly vo mp X Y _ (fs0.set 28 (.int (nI (r + 1)))) (hq0.to (S := [28, 52, 53]) (by rw [List.length_set]; exact hq0.1) (fsE.rf.st (by decide)) (by decide)) (MY.kp (fun a p1 p2 => (sv_un (by omega)).trans ((sv_un (by omega)).trans ((sv_un (by omega)).trans ((sv_un (by omega)).trans ((sv_un (by omega)).trans ((sv_un (by omega)).trans ((sv_un (by omega)).trans ((sv_un (by omega)).trans (sv_un (by omega))))))))))) wv how d hd hw16 mo o fw (((sv_un (by omega)).trans ((sv_un (by omega)).trans ((sv_un (by omega)).trans ((sv_un (by omega)).trans ((sv_un (by omega)).trans ((sv_un (by omega)).trans ((sv_un (by omega)).trans ((sv_un (by omega)).trans (sv_un (by omega)))))))))).trans o3) hmo ((List.getElem?_set_ne (by decide)).trans h60) ((List.getElem?_set_ne (by decide)).trans h61) r hr ((sv_un (by omega)).trans ((sv_un (by omega)).trans ((sv_un (by omega)).trans ((sv_un (by omega)).trans ((sv_un (by omega)).trans ((sv_un (by omega)).trans ((sv_un (by omega)).trans ((sv_un (by omega)).trans (sv_us))))))))) (vp_updL (vp_updL (vp_updL (vp_updL (vp_updL (vp_updL (vp_updL (vp_updL gt (12 * r + 8) (jN x0)) (12 * r + 9) (jN y0)) (12 * r + 10) (jN x1)) (12 * r + 11) (jN y1)) (12 * r + 4) (jN a)) (12 * r + 5) (jN c)) (12 * r + 6) (jN m)) (12 * r + 7) (jN (mc : Int))) sv_us x0 y0 x1 y1 ((pk_uLn (by omega)).trans ((pk_uLn (by omega)).trans ((pk_uLn (by omega)).trans ((pk_uLn (by omega)).trans ((pk_uLn (by omega)).trans ((pk_uLn (by omega)).trans ((pk_uLn (by omega)).trans (pk_uLs)))))))) ((pk_uLn (by omega)).trans ((pk_uLn (by omega)).trans ((pk_uLn (by omega)).trans ((pk_uLn (by omega)).trans ((pk_uLn (by omega)).trans ((pk_uLn (by omega)).trans (pk_uLs))))))) ((pk_uLn (by omega)).trans ((pk_uLn (by omega)).trans ((pk_uLn (by omega)).trans ((pk_uLn (by omega)).trans ((pk_uLn (by omega)).trans (pk_uLs)))))) ((pk_uLn (by omega)).trans ((pk_uLn (by omega)).trans ((pk_uLn (by omega)).trans ((pk_uLn (by omega)).trans (pk_uLs))))) c0 c1 c2 c3) (fun v h1 z1 hq9 => ?_)
    obtain ⟨rfl, rfl, ⟨fs1, u1, u2, u3⟩, ⟨gt1, v1, v2, v3, v4, v5, v6⟩, u4⟩ := hq9
    exact v_ret rfl dX13_tell_138 (Nat.le_of_ble_eq_true rfl) (Nat.le_of_ble_eq_true rfl) (by
          refine ⟨rfl, rfl, ⟨fs1, u1, u2, (fsE.rf.st (by decide)).tr (u3.up (by decide)), (u3 28 (by decide)).trans (sv_ls (by omega))⟩, ⟨gt1, v1, fun j hj => ?_, fun a p => (v6 a (by omega)).trans ((pk_uLn (by omega)).trans ((pk_uLn (by omega)).trans ((pk_uLn (by omega)).trans ((pk_uLn (by omega)).trans ((pk_uLn (by omega)).trans ((pk_uLn (by omega)).trans ((pk_uLn (by omega)).trans (pk_uLn (by omega)))))))))⟩, fun a p1 p2 => (u4 a p1 p2).trans ((sv_un p2).trans ((sv_un p2).trans ((sv_un p2).trans ((sv_un p2).trans ((sv_un p2).trans ((sv_un p2).trans ((sv_un p2).trans ((sv_un p2).trans (sv_un p1)))))))))⟩
          have e0 : (jN x0).toInt = x0 := jN_to (by omega) (by omega)
          have e1 : (jN y0).toInt = y0 := jN_to (by omega) (by omega)
          have e2 : (jN x1).toInt = x1 := jN_to (by omega) (by omega)
          have e3 : (jN y1).toInt = y1 := jN_to (by omega) (by omega)
          match j, hj with
          | 0, _ => (refine v2.trans ?_; show _ = jN (min (mvA _ ((jN x0).toInt, (jN y0).toInt)).1 (mvA _ ((jN x1).toInt, (jN y1).toInt)).1); rw [e0, e1, e2, e3])
          | 1, _ => (refine v3.trans ?_; show _ = jN (min (mvA _ ((jN x0).toInt, (jN y0).toInt)).2 (mvA _ ((jN x1).toInt, (jN y1).toInt)).2); rw [e0, e1, e2, e3])
          | 2, _ => (refine v4.trans ?_; show _ = jN (max (mvA _ ((jN x0).toInt, (jN y0).toInt)).1 (mvA _ ((jN x1).toInt, (jN y1).toInt)).1); rw [e0, e1, e2, e3])
          | 3, _ => (refine v5.trans ?_; show _ = jN (max (mvA _ ((jN x0).toInt, (jN y0).toInt)).2 (mvA _ ((jN x1).toInt, (jN y1).toInt)).2); rw [e0, e1, e2, e3])
          | 4, _ => exact (v6 _ (by omega)).trans ((pk_uLn (by omega)).trans ((pk_uLn (by omega)).trans ((pk_uLn (by omega)).trans (pk_uLs))))
          | 5, _ => exact (v6 _ (by omega)).trans ((pk_uLn (by omega)).trans ((pk_uLn (by omega)).trans (pk_uLs)))
          | 6, _ => exact (v6 _ (by omega)).trans ((pk_uLn (by omega)).trans (pk_uLs))
          | 7, _ => exact (v6 _ (by omega)).trans (pk_uLs)
          | 8, _ => exact (v6 _ (by omega)).trans ((pk_uLn (by omega)).trans ((pk_uLn (by omega)).trans ((pk_uLn (by omega)).trans ((pk_uLn (by omega)).trans ((pk_uLn (by omega)).trans ((pk_uLn (by omega)).trans ((pk_uLn (by omega)).trans (pk_uLs))))))))
          | 9, _ => exact (v6 _ (by omega)).trans ((pk_uLn (by omega)).trans ((pk_uLn (by omega)).trans ((pk_uLn (by omega)).trans ((pk_uLn (by omega)).trans ((pk_uLn (by omega)).trans ((pk_uLn (by omega)).trans (pk_uLs)))))))
          | 10, _ => exact (v6 _ (by omega)).trans ((pk_uLn (by omega)).trans ((pk_uLn (by omega)).trans ((pk_uLn (by omega)).trans ((pk_uLn (by omega)).trans ((pk_uLn (by omega)).trans (pk_uLs))))))
          | 11, _ => exact (v6 _ (by omega)).trans ((pk_uLn (by omega)).trans ((pk_uLn (by omega)).trans ((pk_uLn (by omega)).trans ((pk_uLn (by omega)).trans (pk_uLs)))))
          | j + 12, h9 => exact absurd h9 (by omega))
  · exact absurd (show nI r = 1500 by first | exact c_7 | exact Decidable.of_not_not c_7) (fun e9 => by have := congrArg Int32.toInt e9; rw [nI_toI (by omega)] at this; have h9 : (1500 : Int32).toInt = 1500 := rfl; omega)

