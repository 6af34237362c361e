set_option maxRecDepth 20000 in
theorem ggX12_place_X12_isCoordinate : GoodIn wsX12_place wsX12_isCoordinate := goodIn_r _ [18, 19, 20] (by decide +kernel) (by decide +kernel)
set_option maxRecDepth 20000 in
theorem ggX12_place_X3_isWithin : GoodIn wsX12_place wsX3_isWithin := goodIn_r _ [24, 25, 26, 27, 12, 28, 14, 29, 30, 31, 66, 67, 68, 69, 70, 71, 72, 73, 74, 75] (by decide +kernel) (by decide +kernel)
set_option maxRecDepth 20000 in
theorem gX12_place_X3_isWithin : GoodIn wsX12_place (wsV RX12 182 RX3 yX3_isWithin wsX3_isWithin) := goodIn_app (goodIn_of _ (by decide +kernel)) ggX12_place_X3_isWithin
set_option maxRecDepth 20000 in
theorem ggX12_place_X3_addPlace : GoodIn wsX12_place wsX3_addPlace := goodIn_r _ [35, 30, 29, 31, 36, 37, 38, 39, 40, 41, 42, 43, 44, 45, 46, 47, 48, 49, 50, 51, 52, 66, 67, 68, 69, 70, 71, 72, 73, 74, 75, 76, 77, 78, 79] (by decide +kernel) (by decide +kernel)
set_option maxRecDepth 20000 in
theorem gX12_place_X3_addPlace : GoodIn wsX12_place (wsV RX12 185 RX3 yX3_addPlace wsX3_addPlace) := goodIn_app (goodIn_of _ (by decide +kernel)) ggX12_place_X3_addPlace
set_option maxRecDepth 20000 in
theorem ggX13_place_X13_isIn : GoodIn wsX13_place wsX13_isIn := goodIn_r _ [17, 18, 19] (by decide +kernel) (by decide +kernel)
set_option maxRecDepth 20000 in
theorem ggX13_place_X13_markUnder : GoodIn wsX13_place wsX13_markUnder := goodIn_r _ [23, 3, 1, 4, 5, 24, 25, 26, 27, 28, 29, 30, 31, 32, 33, 34, 35, 36, 37, 38, 39, 40, 41, 42, 43, 44, 45, 46, 47, 48, 49, 50, 51, 52, 53, 54, 55, 56, 57, 58, 59, 60, 61, 62, 63, 64, 65, 66, 67, 68, 69, 70, 71, 72, 73, 74, 75, 76, 77, 78, 79, 80, 81, 82, 83, 84, 85, 86, 87, 88, 89, 90, 91, 92, 93, 94] (by decide +kernel) (by decide +kernel)
set_option maxRecDepth 20000 in
theorem gX13_place_X13_markUnder : GoodIn wsX13_place (wsV RX13 172 RX13 yX13_markUnder wsX13_markUnder) := goodIn_app (goodIn_of _ (by decide +kernel)) ggX13_place_X13_markUnder
set_option maxHeartbeats 4000000 in
set_option maxRecDepth 100000 in
theorem c_place (G : sv_G) (hl0 : G.1.stackTraces = false) (h : sv_h) (z b nc pl c1 o1 : Nat) (x y : Int64) (tu : Int32) (tp rd ck wv ru la fo fl lo : Nat) (rc lr lf : Int32) (hb : h b = some (.inr (10, [.ref (b + 1), .ref tp, .ref rd, .ref ck, .ref wv, .ref ru, .int rc, .int lr, .int lf, .ref la, .ref fo, .ref fl, .ref lo]))) (k pn : Int32) (hly : h (b + 1) = some (.inr (1, [.int k, .int (nI nc), .ref (b + 2), .int pn, .ref (b + 3), .ref (b + 4), .ref (b + 5), .int (nI pl), .ref (b + 6), .ref (b + 7)]))) (hc1 : c1 < nc) (ho1 : o1 < nc) (hnc : nc ≤ 16) (hpl : pl ≤ 32) (p3 p4 : Nat → Nat) (fh fg : Nat → Int32) (fm : Nat → Option Nat) (hh1 : ab_I G h (b + 3) 32 fh) (hh2 : ab_I G h (b + 4) 32 fg) (hh3 : h (b + 5) = some (.inl (G.2.2.1 3, 32, .inr (.inr (.inr (.inr fm)))))) (hpp : ∀ i, i < pl → fh i = nI (p3 i) ∧ fg i = nI (p4 i) ∧ p3 i < nc ∧ p4 i < nc) (hz : b + 262 ≤ z) (hn : pl < 32) (hcx : (¬ x < -10000 ∧ x ≤ 10000)) (hcy : (¬ y < -10000 ∧ y ≤ 10000)) (htu : (0 ≤ tu ∧ tu < 8)) : CX G mX12_place [.ref b, .int (nI c1), .int (nI o1), .long x, .long y, .int tu] h z (fun v h1 z1 => (gr_R pl p3 p4 o1 c1 ∧ v = some (.int (-1)) ∧ h1 = h ∧ z1 = z) ∨ (¬ gr_R pl p3 p4 o1 c1 ∧ v = some (.int (nI pl + 1 - 1)) ∧ z1 = z + 1 ∧ h1 (b + 1) = some (.inr (1, [.int k, .int (nI nc), .ref (b + 2), .int pn, .ref (b + 3), .ref (b + 4), .ref (b + 5), .int (nI pl + 1), .ref (b + 6), .ref (b + 7)])) ∧ ab_I G h1 (b + 3) 32 (upd fh pl (nI c1)) ∧ ab_I G h1 (b + 4) 32 (upd fg pl (nI o1)) ∧ h1 (b + 5) = some (.inl (G.2.2.1 3, 32, .inr (.inr (.inr (.inr (va_up fm pl (some z))))))) ∧ h1 z = some (.inr (2, [.int (if tu < 4 then 0 else 1), .int (tu &&& 3), .int x.toInt32, .int y.toInt32])) ∧ ∀ a, a < z → a ≠ b + 1 → a ≠ b + 3 → a ≠ b + 4 → a ≠ b + 5 → h1 a = h a)) (fun _ _ _ => False) := by
  refine CX.of (by decide +kernel) rfl rfl (Nat.le_of_ble_eq_true rfl) ?_
  refine v_aload_n dX12_place_0 rfl 0 rfl ?_
  refine v_getf 0 (ci := 10) (C := RX12) (T := TX12) (N := 13) rfl iwX12_place_X12 (Nat.le_of_ble_eq_true rfl) (by decide +kernel) dX12_place_1 (by repeat (first | (with_reducible refine sv_us.trans ?_; exact rfl) | with_reducible assumption | with_reducible refine (sv_un (by omega)).trans ?_)) (by exact rfl) ?_
  refine v_iload_n dX12_place_4 rfl 1 rfl ?_
  refine v_callVq (M' := mX3_hasCell) (n := 1) (As := [_]) (ci := 1) (r := (RX3, TX3, 10)) gX12_place_X3_hasCell rfl (by decide +kernel) ⟨(Nat.le_of_ble_eq_true rfl), (Nat.le_of_ble_eq_true rfl)⟩ rfl rfl dX12_place_5 rfl ⟨(Nat.le_of_ble_eq_true rfl), (Nat.le_of_ble_eq_true rfl)⟩ (Nat.le_of_ble_eq_true rfl) (by repeat (first | (with_reducible refine sv_us.trans ?_; exact rfl) | with_reducible assumption | with_reducible refine (sv_un (by omega)).trans ?_)) rfl (c_hasCell G _ _ _ _ _ _ _ _ _ _ _ _ _ _ hly) (fun v h1 z1 hq => ?_)
  rw [if_pos (show 0 ≤ nI c1 ∧ nI c1 < nI nc from ⟨nI_le (a := 0) (by omega) (by omega), nI_lt (by omega) (by omega)⟩)] at hq
  obtain ⟨rfl, rfl, rfl⟩ := hq
  refine v_if_eq (tgt := 22) dX12_place_8 (by decide) (fun c_8 => ?_) (fun c_8 => ?_)
  · exact absurd c_8 (by decide)
  · refine v_aload_n dX12_place_11 rfl 0 rfl ?_
    refine v_getf 0 (ci := 10) (C := RX12) (T := TX12) (N := 13) rfl iwX12_place_X12 (Nat.le_of_ble_eq_true rfl) (by decide +kernel) dX12_place_12 (by repeat (first | (with_reducible refine sv_us.trans ?_; exact rfl) | with_reducible assumption | with_reducible refine (sv_un (by omega)).trans ?_)) (by exact rfl) ?_
    refine v_iload_n dX12_place_15 rfl 2 rfl ?_
    refine v_callVq (M' := mX3_hasCell) (n := 1) (As := [_]) (ci := 1) (r := (RX3, TX3, 10)) gX12_place_X3_hasCell rfl (by decide +kernel) ⟨(Nat.le_of_ble_eq_true rfl), (Nat.le_of_ble_eq_true rfl)⟩ rfl rfl dX12_place_16 rfl ⟨(Nat.le_of_ble_eq_true rfl), (Nat.le_of_ble_eq_true rfl)⟩ (Nat.le_of_ble_eq_true rfl) (by repeat (first | (with_reducible refine sv_us.trans ?_; exact rfl) | with_reducible assumption | with_reducible refine (sv_un (by omega)).trans ?_)) rfl (c_hasCell G _ _ _ _ _ _ _ _ _ _ _ _ _ _ hly) (fun v h1 z1 hq => ?_)
    rw [if_pos (show 0 ≤ nI o1 ∧ nI o1 < nI nc from ⟨nI_le (a := 0) (by omega) (by omega), nI_lt (by omega) (by omega)⟩)] at hq
    obtain ⟨rfl, rfl, rfl⟩ := hq
    refine v_if_ne (tgt := 32) dX12_place_19 (by decide) (fun c_19 => ?_) (fun c_19 => ?_)
    · refine v_aload_n dX12_place_32 rfl 0 rfl ?_
      refine v_getf 0 (ci := 10) (C := RX12) (T := TX12) (N := 13) rfl iwX12_place_X12 (Nat.le_of_ble_eq_true rfl) (by decide +kernel) dX12_place_33 (by repeat (first | (with_reducible refine sv_us.trans ?_; exact rfl) | with_reducible assumption | with_reducible refine (sv_un (by omega)).trans ?_)) (by exact rfl) ?_
      refine v_getf 7 (ci := 1) (C := RX3) (T := TX3) (N := 10) rfl iwX12_place_X3 (Nat.le_of_ble_eq_true rfl) (by decide +kernel) dX12_place_36 (by repeat (first | (with_reducible refine sv_us.trans ?_; exact rfl) | with_reducible assumption | with_reducible refine (sv_un (by omega)).trans ?_)) (by exact rfl) ?_
      refine v_bipush (v := 32) dX12_place_39 (by decide) ?_
      refine v_icmp_lt (tgt := 54) dX12_place_41 (by decide) (fun c_41 => ?_) (fun c_41 => ?_)
      · refine v_lload_n dX12_place_54 rfl 3 rfl ?_
        refine v_callSq (M' := mX12_isCoordinate) (n := 1) (As := [_]) ggX12_place_X12_isCoordinate (by decide +kernel) (by decide +kernel) (by decide +kernel) rfl (by decide +kernel) ⟨(Nat.le_of_ble_eq_true rfl), (Nat.le_of_ble_eq_true rfl)⟩ dX12_place_55 rfl ⟨(Nat.le_of_ble_eq_true rfl), (Nat.le_of_ble_eq_true rfl)⟩ (Nat.le_of_ble_eq_true rfl) rfl (c_isCoord G _ _ x) (fun v h1 z1 hq => ?_)
        rw [if_pos hcx] at hq
        obtain ⟨rfl, rfl, rfl⟩ := hq
        refine v_if_eq (tgt := 81) dX12_place_58 (by decide) (fun c_58 => ?_) (fun c_58 => ?_)
        · exact absurd c_58 (by decide)
        · refine v_lload dX12_place_61 4 rfl ?_
          refine v_callSq (M' := mX12_isCoordinate) (n := 1) (As := [_]) ggX12_place_X12_isCoordinate (by decide +kernel) (by decide +kernel) (by decide +kernel) rfl (by decide +kernel) ⟨(Nat.le_of_ble_eq_true rfl), (Nat.le_of_ble_eq_true rfl)⟩ dX12_place_63 rfl ⟨(Nat.le_of_ble_eq_true rfl), (Nat.le_of_ble_eq_true rfl)⟩ (Nat.le_of_ble_eq_true rfl) rfl (c_isCoord G _ _ y) (fun v h1 z1 hq => ?_)
          rw [if_pos hcy] at hq
          obtain ⟨rfl, rfl, rfl⟩ := hq
          refine v_if_eq (tgt := 81) dX12_place_66 (by decide) (fun c_66 => ?_) (fun c_66 => ?_)
          · exact absurd c_66 (by decide)
          · refine v_iload dX12_place_69 5 rfl ?_
            refine v_if_lt (tgt := 81) dX12_place_71 (by decide) (fun c_71 => ?_) (fun c_71 => ?_)
            · exact absurd htu.1 (by simp only [Int32.lt_iff_toInt_lt, Int32.le_iff_toInt_le, sv_i0, sv_i1, sv_i2, sv_i3, sv_i4, sv_i5, sv_i6, sv_i7, sv_i8, sv_i9, sv_i10, sv_i16, sv_i17, sv_i20, sv_i32, sv_i40, sv_i64, sv_i100, sv_i126, sv_i255, sv_i600, sv_i1500, sv_i65536, sv_im1] at *; omega)
            · refine v_iload dX12_place_74 5 rfl ?_
              refine v_bipush (v := 8) dX12_place_76 (by decide) ?_
              refine v_icmp_lt (tgt := 91) dX12_place_78 (by decide) (fun c_78 => ?_) (fun c_78 => ?_)
              · refine v_aload_n dX12_place_91 rfl 0 rfl ?_
                refine v_getf 0 (ci := 10) (C := RX12) (T := TX12) (N := 13) rfl iwX12_place_X12 (Nat.le_of_ble_eq_true rfl) (by decide +kernel) dX12_place_92 (by repeat (first | (with_reducible refine sv_us.trans ?_; exact rfl) | with_reducible assumption | with_reducible refine (sv_un (by omega)).trans ?_)) (by exact rfl) ?_
                refine v_iload_n dX12_place_95 rfl 1 rfl ?_
                refine v_iload_n dX12_place_96 rfl 2 rfl ?_
                refine v_callVq (M' := mX3_isWithin) (n := 2) (As := [_, _]) (ci := 1) (r := (RX3, TX3, 10)) gX12_place_X3_isWithin rfl (by decide +kernel) ⟨(Nat.le_of_ble_eq_true rfl), (Nat.le_of_ble_eq_true rfl)⟩ rfl rfl dX12_place_97 rfl ⟨(Nat.le_of_ble_eq_true rfl), (Nat.le_of_ble_eq_true rfl)⟩ (Nat.le_of_ble_eq_true rfl) (by repeat (first | (with_reducible refine sv_us.trans ?_; exact rfl) | with_reducible assumption | with_reducible refine (sv_un (by omega)).trans ?_)) rfl (c_isWithin G _ _ (b + 1) nc pl p3 p4 fh fg _ _ _ _ _ _ _ _ hly hh1 hh2 hpl hnc hpp c1 o1 hc1 ho1) (fun v h1 z1 hq => ?_)
                obtain ⟨⟨w9, rfl, hw9⟩, rfl, rfl⟩ := hq
                refine v_if_eq (tgt := 105) dX12_place_100 (by decide) (fun c_100 => ?_) (fun c_100 => ?_)
                · refine v_aload_n dX12_place_105 rfl 0 rfl ?_
                  refine v_getf 0 (ci := 10) (C := RX12) (T := TX12) (N := 13) rfl iwX12_place_X12 (Nat.le_of_ble_eq_true rfl) (by decide +kernel) dX12_place_106 (by repeat (first | (with_reducible refine sv_us.trans ?_; exact rfl) | with_reducible assumption | with_reducible refine (sv_un (by omega)).trans ?_)) (by exact rfl) ?_
                  refine v_iload_n dX12_place_109 rfl 1 rfl ?_
                  refine v_iload_n dX12_place_110 rfl 2 rfl ?_
                  refine v_lload_n dX12_place_111 rfl 3 rfl ?_
                  refine v_l2i dX12_place_112 rfl ?_
                  refine v_lload dX12_place_113 4 rfl ?_
                  refine v_l2i dX12_place_115 rfl ?_
                  refine v_iload dX12_place_116 5 rfl ?_
                  refine v_callVq (M' := mX3_addPlace) (n := 5) (As := [_, _, _, _, _]) (ci := 1) (r := (RX3, TX3, 10)) gX12_place_X3_addPlace rfl (by decide +kernel) ⟨(Nat.le_of_ble_eq_true rfl), (Nat.le_of_ble_eq_true rfl)⟩ rfl rfl dX12_place_118 rfl ⟨(Nat.le_of_ble_eq_true rfl), (Nat.le_of_ble_eq_true rfl)⟩ (Nat.le_of_ble_eq_true rfl) (by repeat (first | (with_reducible refine sv_us.trans ?_; exact rfl) | with_reducible assumption | with_reducible refine (sv_un (by omega)).trans ?_)) rfl (c_addPlace G _ _ (b + 1) pl (nI c1) (nI o1) x.toInt32 y.toInt32 tu fh fg fm _ _ _ _ _ _ _ _ _ hly hh1 hh2 hh3 hn (by omega) (by omega) (by omega) (by omega) (by omega) (by omega) (by omega) (by omega) (by omega) (by omega)) (fun v h1 z1 hq => ?_)
                  obtain ⟨rfl, rfl, hq⟩ := hq
                  exact v_xret (v_iret rfl dX12_place_121 (Nat.le_of_ble_eq_true rfl) (Nat.le_of_ble_eq_true rfl) rfl (Or.inr ⟨(hw9.resolve_left (fun q => by rw [q.1] at c_100; exact absurd c_100 (by decide))).2, rfl, rfl, hq⟩))
                · refine v_iconst (v := (-1)) dX12_place_103 (by decide) ?_
                  exact v_xret (v_iret rfl dX12_place_104 (Nat.le_of_ble_eq_true rfl) (Nat.le_of_ble_eq_true rfl) rfl (Or.inl ⟨(hw9.resolve_right (fun q => c_100 q.1)).2, rfl, rfl, rfl⟩))
              · exact absurd htu.2 c_78
      · exact absurd (nI_lt (b := 32) hn (by omega)) c_41
    · exact absurd c_19 (by decide)

set_option maxHeartbeats 4000000 in
set_option maxRecDepth 100000 in
theorem c_place_o2 (G : sv_G) (hl0 : G.1.stackTraces = false) (h : sv_h) (z b nc pl c1 : Nat) (x y : Int64) (of tu : Int32) (tp rd ck wv ru la fo fl lo : Nat) (rc lr lf : Int32) (hb : h b = some (.inr (10, [.ref (b + 1), .ref tp, .ref rd, .ref ck, .ref wv, .ref ru, .int rc, .int lr, .int lf, .ref la, .ref fo, .ref fl, .ref lo]))) (k pn : Int32) (hly : h (b + 1) = some (.inr (1, [.int k, .int (nI nc), .ref (b + 2), .int pn, .ref (b + 3), .ref (b + 4), .ref (b + 5), .int (nI pl), .ref (b + 6), .ref (b + 7)]))) (hc1 : c1 < nc) (hnc : nc ≤ 16) (hof : ¬ (0 ≤ of ∧ of < nI nc)) : CX G mX12_place [.ref b, .int (nI c1), .int of, .long x, .long y, .int tu] h z (fun _ _ _ => False) (fun E h1 z1 => E = "java/lang/IndexOutOfBoundsException" ∧ h1 = h) := by
  refine CX.of (by decide +kernel) rfl rfl (Nat.le_of_ble_eq_true rfl) ?_
  refine v_aload_n dX12_place_0 rfl 0 rfl ?_
  refine v_getf 0 (ci := 10) (C := RX12) (T := TX12) (N := 13) rfl iwX12_place_X12 (Nat.le_of_ble_eq_true rfl) (by decide +kernel) dX12_place_1 (by repeat (first | (with_reducible refine sv_us.trans ?_; exact rfl) | with_reducible assumption | with_reducible refine (sv_un (by omega)).trans ?_)) (by exact rfl) ?_
  refine v_iload_n dX12_place_4 rfl 1 rfl ?_
  refine v_callVq (M' := mX3_hasCell) (n := 1) (As := [_]) (ci := 1) (r := (RX3, TX3, 10)) gX12_place_X3_hasCell rfl (by decide +kernel) ⟨(Nat.le_of_ble_eq_true rfl), (Nat.le_of_ble_eq_true rfl)⟩ rfl rfl dX12_place_5 rfl ⟨(Nat.le_of_ble_eq_true rfl), (Nat.le_of_ble_eq_true rfl)⟩ (Nat.le_of_ble_eq_true rfl) (by repeat (first | (with_reducible refine sv_us.trans ?_; exact rfl) | with_reducible assumption | with_reducible refine (sv_un (by omega)).trans ?_)) rfl (c_hasCell G _ _ _ _ _ _ _ _ _ _ _ _ _ _ hly) (fun v h1 z1 hq => ?_)
  rw [if_pos (show 0 ≤ nI c1 ∧ nI c1 < nI nc from ⟨nI_le (a := 0) (by omega) (by omega), nI_lt (by omega) (by omega)⟩)] at hq
  obtain ⟨rfl, rfl, rfl⟩ := hq
  refine v_if_eq (tgt := 22) dX12_place_8 (by decide) (fun c_8 => ?_) (fun c_8 => ?_)
  · exact absurd c_8 (by decide)
  · refine v_aload_n dX12_place_11 rfl 0 rfl ?_
    refine v_getf 0 (ci := 10) (C := RX12) (T := TX12) (N := 13) rfl iwX12_place_X12 (Nat.le_of_ble_eq_true rfl) (by decide +kernel) dX12_place_12 (by repeat (first | (with_reducible refine sv_us.trans ?_; exact rfl) | with_reducible assumption | with_reducible refine (sv_un (by omega)).trans ?_)) (by exact rfl) ?_
    refine v_iload_n dX12_place_15 rfl 2 rfl ?_
    refine v_callVq (M' := mX3_hasCell) (n := 1) (As := [_]) (ci := 1) (r := (RX3, TX3, 10)) gX12_place_X3_hasCell rfl (by decide +kernel) ⟨(Nat.le_of_ble_eq_true rfl), (Nat.le_of_ble_eq_true rfl)⟩ rfl rfl dX12_place_16 rfl ⟨(Nat.le_of_ble_eq_true rfl), (Nat.le_of_ble_eq_true rfl)⟩ (Nat.le_of_ble_eq_true rfl) (by repeat (first | (with_reducible refine sv_us.trans ?_; exact rfl) | with_reducible assumption | with_reducible refine (sv_un (by omega)).trans ?_)) rfl (c_hasCell G _ _ _ _ _ _ _ _ _ _ _ _ _ _ hly) (fun v h1 z1 hq => ?_)
    rw [if_neg hof] at hq
    obtain ⟨rfl, rfl, rfl⟩ := hq
    refine v_if_ne (tgt := 32) dX12_place_19 (by decide) (fun c_19 => ?_) (fun c_19 => ?_)
    · exact absurd rfl c_19
    · exact v_throw (ik := 121) (is := 173) (ic := 125) (cls := "java/lang/IndexOutOfBoundsException") (text := "no such cell") (names := ["java/lang/RuntimeException", "java/lang/Exception"]) hl0 rfl (by decide +kernel) (by decide +kernel) (by decide +kernel) (by decide +kernel) (by decide +kernel) (by decide +kernel) (by decide +kernel) sv_bwO (by decide +kernel) dX12_place_22 dX12_place_25 dX12_place_26 dX12_place_28 dX12_place_31 rfl (Nat.le_of_ble_eq_true rfl) (Nat.le_of_ble_eq_true rfl) (Nat.le_of_ble_eq_true rfl) (Nat.le_of_ble_eq_true rfl) (fun z9 hz9 => ⟨rfl, rfl⟩)

set_option maxHeartbeats 4000000 in
set_option maxRecDepth 100000 in
theorem c_place_f (G : sv_G) (hl0 : G.1.stackTraces = false) (h : sv_h) (z b nc pl c1 o1 : Nat) (x y : Int64) (tu : Int32) (tp rd ck wv ru la fo fl lo : Nat) (rc lr lf : Int32) (hb : h b = some (.inr (10, [.ref (b + 1), .ref tp, .ref rd, .ref ck, .ref wv, .ref ru, .int rc, .int lr, .int lf, .ref la, .ref fo, .ref fl, .ref lo]))) (k pn : Int32) (hly : h (b + 1) = some (.inr (1, [.int k, .int (nI nc), .ref (b + 2), .int pn, .ref (b + 3), .ref (b + 4), .ref (b + 5), .int (nI pl), .ref (b + 6), .ref (b + 7)]))) (hc1 : c1 < nc) (ho1 : o1 < nc) (hnc : nc ≤ 16) (hpl : pl ≤ 32) (hn : ¬ pl < 32) : CX G mX12_place [.ref b, .int (nI c1), .int (nI o1), .long x, .long y, .int tu] h z (fun _ _ _ => False) (fun E h1 z1 => E = "java/lang/IllegalStateException" ∧ h1 = h) := by
  refine CX.of (by decide +kernel) rfl rfl (Nat.le_of_ble_eq_true rfl) ?_
  refine v_aload_n dX12_place_0 rfl 0 rfl ?_
  refine v_getf 0 (ci := 10) (C := RX12) (T := TX12) (N := 13) rfl iwX12_place_X12 (Nat.le_of_ble_eq_true rfl) (by decide +kernel) dX12_place_1 (by repeat (first | (with_reducible refine sv_us.trans ?_; exact rfl) | with_reducible assumption | with_reducible refine (sv_un (by omega)).trans ?_)) (by exact rfl) ?_
  refine v_iload_n dX12_place_4 rfl 1 rfl ?_
  refine v_callVq (M' := mX3_hasCell) (n := 1) (As := [_]) (ci := 1) (r := (RX3, TX3, 10)) gX12_place_X3_hasCell rfl (by decide +kernel) ⟨(Nat.le_of_ble_eq_true rfl), (Nat.le_of_ble_eq_true rfl)⟩ rfl rfl dX12_place_5 rfl ⟨(Nat.le_of_ble_eq_true rfl), (Nat.le_of_ble_eq_true rfl)⟩ (Nat.le_of_ble_eq_true rfl) (by repeat (first | (with_reducible refine sv_us.trans ?_; exact rfl) | with_reducible assumption | with_reducible refine (sv_un (by omega)).trans ?_)) rfl (c_hasCell G _ _ _ _ _ _ _ _ _ _ _ _ _ _ hly) (fun v h1 z1 hq => ?_)
  rw [if_pos (show 0 ≤ nI c1 ∧ nI c1 < nI nc from ⟨nI_le (a := 0) (by omega) (by omega), nI_lt (by omega) (by omega)⟩)] at hq
  obtain ⟨rfl, rfl, rfl⟩ := hq
  refine v_if_eq (tgt := 22) dX12_place_8 (by decide) (fun c_8 => ?_) (fun c_8 => ?_)
  · exact absurd c_8 (by decide)
  · refine v_aload_n dX12_place_11 rfl 0 rfl ?_
    refine v_getf 0 (ci := 10) (C := RX12) (T := TX12) (N := 13) rfl iwX12_place_X12 (Nat.le_of_ble_eq_true rfl) (by decide +kernel) dX12_place_12 (by repeat (first | (with_reducible refine sv_us.trans ?_; exact rfl) | with_reducible assumption | with_reducible refine (sv_un (by omega)).trans ?_)) (by exact rfl) ?_
    refine v_iload_n dX12_place_15 rfl 2 rfl ?_
    refine v_callVq (M' := mX3_hasCell) (n := 1) (As := [_]) (ci := 1) (r := (RX3, TX3, 10)) gX12_place_X3_hasCell rfl (by decide +kernel) ⟨(Nat.le_of_ble_eq_true rfl), (Nat.le_of_ble_eq_true rfl)⟩ rfl rfl dX12_place_16 rfl ⟨(Nat.le_of_ble_eq_true rfl), (Nat.le_of_ble_eq_true rfl)⟩ (Nat.le_of_ble_eq_true rfl) (by repeat (first | (with_reducible refine sv_us.trans ?_; exact rfl) | with_reducible assumption | with_reducible refine (sv_un (by omega)).trans ?_)) rfl (c_hasCell G _ _ _ _ _ _ _ _ _ _ _ _ _ _ hly) (fun v h1 z1 hq => ?_)
    rw [if_pos (show 0 ≤ nI o1 ∧ nI o1 < nI nc from ⟨nI_le (a := 0) (by omega) (by omega), nI_lt (by omega) (by omega)⟩)] at hq
    obtain ⟨rfl, rfl, rfl⟩ := hq
    refine v_if_ne (tgt := 32) dX12_place_19 (by decide) (fun c_19 => ?_) (fun c_19 => ?_)
    · refine v_aload_n dX12_place_32 rfl 0 rfl ?_
      refine v_getf 0 (ci := 10) (C := RX12) (T := TX12) (N := 13) rfl iwX12_place_X12 (Nat.le_of_ble_eq_true rfl) (by decide +kernel) dX12_place_33 (by repeat (first | (with_reducible refine sv_us.trans ?_; exact rfl) | with_reducible assumption | with_reducible refine (sv_un (by omega)).trans ?_)) (by exact rfl) ?_
      refine v_getf 7 (ci := 1) (C := RX3) (T := TX3) (N := 10) rfl iwX12_place_X3 (Nat.le_of_ble_eq_true rfl) (by decide +kernel) dX12_place_36 (by repeat (first | (with_reducible refine sv_us.trans ?_; exact rfl) | with_reducible assumption | with_reducible refine (sv_un (by omega)).trans ?_)) (by exact rfl) ?_
      refine v_bipush (v := 32) dX12_place_39 (by decide) ?_
      refine v_icmp_lt (tgt := 54) dX12_place_41 (by decide) (fun c_41 => ?_) (fun c_41 => ?_)
      · exact absurd ((nI_ltI (b := 32) (by omega) (by omega)).mp c_41) hn
      · exact v_throw (ik := 108) (is := 178) (ic := 112) (cls := "java/lang/IllegalStateException") (text := "no more places") (names := ["java/lang/RuntimeException", "java/lang/Exception"]) hl0 rfl (by decide +kernel) (by decide +kernel) (by decide +kernel) (by decide +kernel) (by decide +kernel) (by decide +kernel) (by decide +kernel) sv_bwI (by decide +kernel) dX12_place_44 dX12_place_47 dX12_place_48 dX12_place_50 dX12_place_53 rfl (Nat.le_of_ble_eq_true rfl) (Nat.le_of_ble_eq_true rfl) (Nat.le_of_ble_eq_true rfl) (Nat.le_of_ble_eq_true rfl) (fun z9 hz9 => ⟨rfl, rfl⟩)
    · exact absurd c_19 (by decide)

set_option maxHeartbeats 4000000 in
set_option maxRecDepth 100000 in
theorem c_place_a (G : sv_G) (hl0 : G.1.stackTraces = false) (h : sv_h) (z b nc pl c1 o1 : Nat) (x y : Int64) (tu : Int32) (tp rd ck wv ru la fo fl lo : Nat) (rc lr lf : Int32) (hb : h b = some (.inr (10, [.ref (b + 1), .ref tp, .ref rd, .ref ck, .ref wv, .ref ru, .int rc, .int lr, .int lf, .ref la, .ref fo, .ref fl, .ref lo]))) (k pn : Int32) (hly : h (b + 1) = some (.inr (1, [.int k, .int (nI nc), .ref (b + 2), .int pn, .ref (b + 3), .ref (b + 4), .ref (b + 5), .int (nI pl), .ref (b + 6), .ref (b + 7)]))) (hc1 : c1 < nc) (ho1 : o1 < nc) (hnc : nc ≤ 16) (hpl : pl ≤ 32) (hn : pl < 32) (hc : ¬ ((¬ x < -10000 ∧ x ≤ 10000) ∧ (¬ y < -10000 ∧ y ≤ 10000) ∧ (0 ≤ tu ∧ tu < 8))) : CX G mX12_place [.ref b, .int (nI c1), .int (nI o1), .long x, .long y, .int tu] h z (fun _ _ _ => False) (fun E h1 z1 => E = "java/lang/IllegalArgumentException" ∧ h1 = h) := by
  refine CX.of (by decide +kernel) rfl rfl (Nat.le_of_ble_eq_true rfl) ?_
  refine v_aload_n dX12_place_0 rfl 0 rfl ?_
  refine v_getf 0 (ci := 10) (C := RX12) (T := TX12) (N := 13) rfl iwX12_place_X12 (Nat.le_of_ble_eq_true rfl) (by decide +kernel) dX12_place_1 (by repeat (first | (with_reducible refine sv_us.trans ?_; exact rfl) | with_reducible assumption | with_reducible refine (sv_un (by omega)).trans ?_)) (by exact rfl) ?_
  refine v_iload_n dX12_place_4 rfl 1 rfl ?_
  refine v_callVq (M' := mX3_hasCell) (n := 1) (As := [_]) (ci := 1) (r := (RX3, TX3, 10)) gX12_place_X3_hasCell rfl (by decide +kernel) ⟨(Nat.le_of_ble_eq_true rfl), (Nat.le_of_ble_eq_true rfl)⟩ rfl rfl dX12_place_5 rfl ⟨(Nat.le_of_ble_eq_true rfl), (Nat.le_of_ble_eq_true rfl)⟩ (Nat.le_of_ble_eq_true rfl) (by repeat (first | (with_reducible refine sv_us.trans ?_; exact rfl) | with_reducible assumption | with_reducible refine (sv_un (by omega)).trans ?_)) rfl (c_hasCell G _ _ _ _ _ _ _ _ _ _ _ _ _ _ hly) (fun v h1 z1 hq => ?_)
  rw [if_pos (show 0 ≤ nI c1 ∧ nI c1 < nI nc from ⟨nI_le (a := 0) (by omega) (by omega), nI_lt (by omega) (by omega)⟩)] at hq
  obtain ⟨rfl, rfl, rfl⟩ := hq
  refine v_if_eq (tgt := 22) dX12_place_8 (by decide) (fun c_8 => ?_) (fun c_8 => ?_)
  · exact absurd c_8 (by decide)
  · refine v_aload_n dX12_place_11 rfl 0 rfl ?_
    refine v_getf 0 (ci := 10) (C := RX12) (T := TX12) (N := 13) rfl iwX12_place_X12 (Nat.le_of_ble_eq_true rfl) (by decide +kernel) dX12_place_12 (by repeat (first | (with_reducible refine sv_us.trans ?_; exact rfl) | with_reducible assumption | with_reducible refine (sv_un (by omega)).trans ?_)) (by exact rfl) ?_
    refine v_iload_n dX12_place_15 rfl 2 rfl ?_
    refine v_callVq (M' := mX3_hasCell) (n := 1) (As := [_]) (ci := 1) (r := (RX3, TX3, 10)) gX12_place_X3_hasCell rfl (by decide +kernel) ⟨(Nat.le_of_ble_eq_true rfl), (Nat.le_of_ble_eq_true rfl)⟩ rfl rfl dX12_place_16 rfl ⟨(Nat.le_of_ble_eq_true rfl), (Nat.le_of_ble_eq_true rfl)⟩ (Nat.le_of_ble_eq_true rfl) (by repeat (first | (with_reducible refine sv_us.trans ?_; exact rfl) | with_reducible assumption | with_reducible refine (sv_un (by omega)).trans ?_)) rfl (c_hasCell G _ _ _ _ _ _ _ _ _ _ _ _ _ _ hly) (fun v h1 z1 hq => ?_)
    rw [if_pos (show 0 ≤ nI o1 ∧ nI o1 < nI nc from ⟨nI_le (a := 0) (by omega) (by omega), nI_lt (by omega) (by omega)⟩)] at hq
    obtain ⟨rfl, rfl, rfl⟩ := hq
    refine v_if_ne (tgt := 32) dX12_place_19 (by decide) (fun c_19 => ?_) (fun c_19 => ?_)
    · refine v_aload_n dX12_place_32 rfl 0 rfl ?_
      refine v_getf 0 (ci := 10) (C := RX12) (T := TX12) (N := 13) rfl iwX12_place_X12 (Nat.le_of_ble_eq_true rfl) (by decide +kernel) dX12_place_33 (by repeat (first | (with_reducible refine sv_us.trans ?_; exact rfl) | with_reducible assumption | with_reducible refine (sv_un (by omega)).trans ?_)) (by exact rfl) ?_
      refine v_getf 7 (ci := 1) (C := RX3) (T := TX3) (N := 10) rfl iwX12_place_X3 (Nat.le_of_ble_eq_true rfl) (by decide +kernel) dX12_place_36 (by repeat (first | (with_reducible refine sv_us.trans ?_; exact rfl) | with_reducible assumption | with_reducible refine (sv_un (by omega)).trans ?_)) (by exact rfl) ?_
      refine v_bipush (v := 32) dX12_place_39 (by decide) ?_
      refine v_icmp_lt (tgt := 54) dX12_place_41 (by decide) (fun c_41 => ?_) (fun c_41 => ?_)
      · refine v_lload_n dX12_place_54 rfl 3 rfl ?_
        refine v_callSq (M' := mX12_isCoordinate) (n := 1) (As := [_]) ggX12_place_X12_isCoordinate (by decide +kernel) (by decide +kernel) (by decide +kernel) rfl (by decide +kernel) ⟨(Nat.le_of_ble_eq_true rfl), (Nat.le_of_ble_eq_true rfl)⟩ dX12_place_55 rfl ⟨(Nat.le_of_ble_eq_true rfl), (Nat.le_of_ble_eq_true rfl)⟩ (Nat.le_of_ble_eq_true rfl) rfl (c_isCoord G _ _ x) (fun v h1 z1 hq => ?_)
        obtain ⟨rfl, rfl, rfl⟩ := hq
        refine v_if_eq (tgt := 81) dX12_place_58 (by decide) (fun c_58 => ?_) (fun c_58 => ?_)
        · exact v_throw (ik := 155) (is := 180) (ic := 159) (cls := "java/lang/IllegalArgumentException") (text := "no such place or turn") (names := ["java/lang/RuntimeException", "java/lang/Exception"]) hl0 rfl (by decide +kernel) (by decide +kernel) (by decide +kernel) (by decide +kernel) (by decide +kernel) (by decide +kernel) (by decide +kernel) sv_bwA (by decide +kernel) dX12_place_81 dX12_place_84 dX12_place_85 dX12_place_87 dX12_place_90 rfl (Nat.le_of_ble_eq_true rfl) (Nat.le_of_ble_eq_true rfl) (Nat.le_of_ble_eq_true rfl) (Nat.le_of_ble_eq_true rfl) (fun z9 hz9 => ⟨rfl, rfl⟩)
        · refine v_lload dX12_place_61 4 rfl ?_
          refine v_callSq (M' := mX12_isCoordinate) (n := 1) (As := [_]) ggX12_place_X12_isCoordinate (by decide +kernel) (by decide +kernel) (by decide +kernel) rfl (by decide +kernel) ⟨(Nat.le_of_ble_eq_true rfl), (Nat.le_of_ble_eq_true rfl)⟩ dX12_place_63 rfl ⟨(Nat.le_of_ble_eq_true rfl), (Nat.le_of_ble_eq_true rfl)⟩ (Nat.le_of_ble_eq_true rfl) rfl (c_isCoord G _ _ y) (fun v h1 z1 hq => ?_)
          obtain ⟨rfl, rfl, rfl⟩ := hq
          refine v_if_eq (tgt := 81) dX12_place_66 (by decide) (fun c_66 => ?_) (fun c_66 => ?_)
          · exact v_throw (ik := 155) (is := 180) (ic := 159) (cls := "java/lang/IllegalArgumentException") (text := "no such place or turn") (names := ["java/lang/RuntimeException", "java/lang/Exception"]) hl0 rfl (by decide +kernel) (by decide +kernel) (by decide +kernel) (by decide +kernel) (by decide +kernel) (by decide +kernel) (by decide +kernel) sv_bwA (by decide +kernel) dX12_place_81 dX12_place_84 dX12_place_85 dX12_place_87 dX12_place_90 rfl (Nat.le_of_ble_eq_true rfl) (Nat.le_of_ble_eq_true rfl) (Nat.le_of_ble_eq_true rfl) (Nat.le_of_ble_eq_true rfl) (fun z9 hz9 => ⟨rfl, rfl⟩)
          · refine v_iload dX12_place_69 5 rfl ?_
            refine v_if_lt (tgt := 81) dX12_place_71 (by decide) (fun c_71 => ?_) (fun c_71 => ?_)
            · exact v_throw (ik := 155) (is := 180) (ic := 159) (cls := "java/lang/IllegalArgumentException") (text := "no such place or turn") (names := ["java/lang/RuntimeException", "java/lang/Exception"]) hl0 rfl (by decide +kernel) (by decide +kernel) (by decide +kernel) (by decide +kernel) (by decide +kernel) (by decide +kernel) (by decide +kernel) sv_bwA (by decide +kernel) dX12_place_81 dX12_place_84 dX12_place_85 dX12_place_87 dX12_place_90 rfl (Nat.le_of_ble_eq_true rfl) (Nat.le_of_ble_eq_true rfl) (Nat.le_of_ble_eq_true rfl) (Nat.le_of_ble_eq_true rfl) (fun z9 hz9 => ⟨rfl, rfl⟩)
            · refine v_iload dX12_place_74 5 rfl ?_
              refine v_bipush (v := 8) dX12_place_76 (by decide) ?_
              refine v_icmp_lt (tgt := 91) dX12_place_78 (by decide) (fun c_78 => ?_) (fun c_78 => ?_)
              · exact absurd ⟨sv_ifn c_58, sv_ifn c_66, Int32.not_lt.mp c_71, c_78⟩ hc
              · exact v_throw (ik := 155) (is := 180) (ic := 159) (cls := "java/lang/IllegalArgumentException") (text := "no such place or turn") (names := ["java/lang/RuntimeException", "java/lang/Exception"]) hl0 rfl (by decide +kernel) (by decide +kernel) (by decide +kernel) (by decide +kernel) (by decide +kernel) (by decide +kernel) (by decide +kernel) sv_bwA (by decide +kernel) dX12_place_81 dX12_place_84 dX12_place_85 dX12_place_87 dX12_place_90 rfl (Nat.le_of_ble_eq_true rfl) (Nat.le_of_ble_eq_true rfl) (Nat.le_of_ble_eq_true rfl) (Nat.le_of_ble_eq_true rfl) (fun z9 hz9 => ⟨rfl, rfl⟩)
      · exact absurd (nI_lt (b := 32) hn (by omega)) c_41
    · exact absurd c_19 (by decide)

set_option maxHeartbeats 4000000 in
set_option maxRecDepth 100000 in
theorem m_place (G : sv_G) (h : sv_h) (z b : Nat) (fs : List Value) (k : Int32) (nc np pl tn nr nl : Nat) (lq lf : Int32) (nw : Nat) (gfs : ab_fs b k nc np pl tn nr nl lq lf nw fs) (hm : h (b + 220) = some (.inr (11, fs))) (c1 o1 : Nat) (x y : Int64) (tu : Int32) (hc1 : c1 < nc) (ho1 : o1 < nc) (hnc : nc ≤ 16) (hpl : pl ≤ 32) (p3 p4 : Nat → Nat) (fh fg ft u0 : Nat → Int32) (fx fy : Nat → Int64) (hh1 : ab_I G h (b + 227) 32 fh) (hh2 : ab_I G h (b + 228) 32 fg) (hh3 : ab_J G h (b + 229) 32 fx) (hh4 : ab_J G h (b + 230) 32 fy) (hh5 : ab_I G h (b + 231) 32 ft) (hu0 : ab_Z G h (b + 243) 16 u0) (hpp : ∀ i, i < pl → fh i = nI (p3 i) ∧ fg i = nI (p4 i) ∧ p3 i < nc ∧ p4 i < nc) (hn : pl < 32) (hcx : (¬ x < -10000 ∧ x ≤ 10000)) (hcy : (¬ y < -10000 ∧ y ≤ 10000)) (htu : (0 ≤ tu ∧ tu < 8)) : CT G mX13_place [.ref (b + 220), .int (nI c1), .int (nI o1), .long x, .long y, .int tu] h z (fun v h1 z1 => z1 = z ∧ (∃ uf, ab_Z G h1 (b + 243) 16 uf) ∧ ((gr_R pl p3 p4 o1 c1 ∧ v = some (.int (-1)) ∧ h1 (b + 220) = some (.inr (11, fs.set 0 (.int 0))) ∧ ∀ a, a ≠ b + 220 → a ≠ b + 243 → h1 a = h a) ∨ (¬ gr_R pl p3 p4 o1 c1 ∧ v = some (.int (nI pl + 1 - 1)) ∧ h1 (b + 220) = some (.inr (11, (fs.set 0 (.int 0)).set 10 (.int (nI pl + 1)))) ∧ ab_I G h1 (b + 227) 32 (upd fh pl (nI c1)) ∧ ab_I G h1 (b + 228) 32 (upd fg pl (nI o1)) ∧ ab_J G h1 (b + 229) 32 (vp_updL fx pl x) ∧ ab_J G h1 (b + 230) 32 (vp_updL fy pl y) ∧ ab_I G h1 (b + 231) 32 (upd ft pl tu) ∧ ∀ a, a ≠ b + 220 → (a < b + 227 ∨ b + 232 ≤ a) → a ≠ b + 243 → h1 a = h a))) := by
  refine CT.of (by decide +kernel) rfl rfl (Nat.le_of_ble_eq_true rfl) ?_
  have hlen := gfs.1
  have f_cells := gfs.f_cells
  have f_places := gfs.f_places
  have f_under := gfs.f_under
  have f_placeIn := gfs.f_placeIn
  have f_placeOf := gfs.f_placeOf
  have f_placeX := gfs.f_placeX
  have f_placeY := gfs.f_placeY
  have f_turns := gfs.f_turns
  refine v_aload_n dX13_place_0 rfl 0 rfl ?_
  refine v_aload_n dX13_place_1 rfl 0 rfl ?_
  refine v_iload_n dX13_place_2 rfl 1 rfl ?_
  refine v_callVq (M' := mX13_isCell) (n := 1) (As := [_]) (ci := 11) (r := (RX13, TX13, 71)) gX13_place_X13_isCell rfl (by decide +kernel) ⟨(Nat.le_of_ble_eq_true rfl), (Nat.le_of_ble_eq_true rfl)⟩ rfl rfl dX13_place_3 rfl ⟨(Nat.le_of_ble_eq_true rfl), (Nat.le_of_ble_eq_true rfl)⟩ (Nat.le_of_ble_eq_true rfl) (by repeat (first | (with_reducible refine sv_us.trans ?_; exact rfl) | with_reducible assumption | with_reducible refine (sv_un (by omega)).trans ?_)) rfl (m_isCell G _ _ _ _ hlen hm _ _ f_cells) (fun v h1 z1 hq => ?_)
  rw [if_pos (show 0 ≤ nI c1 ∧ nI c1 < nI nc from ⟨nI_le (a := 0) (by omega) (by omega), nI_lt (by omega) (by omega)⟩)] at hq
  obtain ⟨rfl, rfl, rfl⟩ := hq
  refine v_if_eq (tgt := 17) dX13_place_6 (by decide) (fun c_6 => ?_) (fun c_6 => ?_)
  · exact absurd c_6 (by decide)
  · refine v_aload_n dX13_place_9 rfl 0 rfl ?_
    refine v_iload_n dX13_place_10 rfl 2 rfl ?_
    refine v_callVq (M' := mX13_isCell) (n := 1) (As := [_]) (ci := 11) (r := (RX13, TX13, 71)) gX13_place_X13_isCell rfl (by decide +kernel) ⟨(Nat.le_of_ble_eq_true rfl), (Nat.le_of_ble_eq_true rfl)⟩ rfl rfl dX13_place_11 rfl ⟨(Nat.le_of_ble_eq_true rfl), (Nat.le_of_ble_eq_true rfl)⟩ (Nat.le_of_ble_eq_true rfl) (by repeat (first | (with_reducible refine sv_us.trans ?_; exact rfl) | with_reducible assumption | with_reducible refine (sv_un (by omega)).trans ?_)) rfl (m_isCell G _ _ _ _ hlen hm _ _ f_cells) (fun v h1 z1 hq => ?_)
    rw [if_pos (show 0 ≤ nI o1 ∧ nI o1 < nI nc from ⟨nI_le (a := 0) (by omega) (by omega), nI_lt (by omega) (by omega)⟩)] at hq
    obtain ⟨rfl, rfl, rfl⟩ := hq
    refine v_if_ne (tgt := 21) dX13_place_14 (by decide) (fun c_14 => ?_) (fun c_14 => ?_)
    · refine v_aload_n dX13_place_21 rfl 0 rfl ?_
      refine v_getf 10 (ci := 11) (C := RX13) (T := TX13) (N := 71) rfl iwX13_place_X13 (Nat.le_of_ble_eq_true rfl) (by decide +kernel) dX13_place_22 (by repeat (first | (with_reducible refine sv_us.trans ?_; exact rfl) | with_reducible assumption | with_reducible refine (sv_un (by omega)).trans ?_)) (by repeat (first | with_reducible assumption | (with_reducible refine (sv_ls (by first | omega | (simp only [List.length_set]; omega))).trans ?_; exact rfl) | with_reducible refine (List.getElem?_set_ne (by decide)).trans ?_)) ?_
      refine v_bipush (v := 32) dX13_place_25 (by decide) ?_
      refine v_icmp_ne (tgt := 34) dX13_place_27 (by decide) (fun c_27 => ?_) (fun c_27 => ?_)
      · refine v_lload_n dX13_place_34 rfl 3 rfl ?_
        refine v_callSq (M' := mX13_isIn) (n := 1) (As := [_]) ggX13_place_X13_isIn (by decide +kernel) (by decide +kernel) (by decide +kernel) rfl (by decide +kernel) ⟨(Nat.le_of_ble_eq_true rfl), (Nat.le_of_ble_eq_true rfl)⟩ dX13_place_35 rfl ⟨(Nat.le_of_ble_eq_true rfl), (Nat.le_of_ble_eq_true rfl)⟩ (Nat.le_of_ble_eq_true rfl) rfl (m_isIn G _ _ x) (fun v h1 z1 hq => ?_)
        rw [if_pos hcx] at hq
        obtain ⟨rfl, rfl, rfl⟩ := hq
        refine v_if_eq (tgt := 61) dX13_place_38 (by decide) (fun c_38 => ?_) (fun c_38 => ?_)
        · exact absurd c_38 (by decide)
        · refine v_lload dX13_place_41 4 rfl ?_
          refine v_callSq (M' := mX13_isIn) (n := 1) (As := [_]) ggX13_place_X13_isIn (by decide +kernel) (by decide +kernel) (by decide +kernel) rfl (by decide +kernel) ⟨(Nat.le_of_ble_eq_true rfl), (Nat.le_of_ble_eq_true rfl)⟩ dX13_place_43 rfl ⟨(Nat.le_of_ble_eq_true rfl), (Nat.le_of_ble_eq_true rfl)⟩ (Nat.le_of_ble_eq_true rfl) rfl (m_isIn G _ _ y) (fun v h1 z1 hq => ?_)
          rw [if_pos hcy] at hq
          obtain ⟨rfl, rfl, rfl⟩ := hq
          refine v_if_eq (tgt := 61) dX13_place_46 (by decide) (fun c_46 => ?_) (fun c_46 => ?_)
          · exact absurd c_46 (by decide)
          · refine v_iload dX13_place_49 5 rfl ?_
            refine v_if_lt (tgt := 61) dX13_place_51 (by decide) (fun c_51 => ?_) (fun c_51 => ?_)
            · exact absurd htu.1 (by simp only [Int32.lt_iff_toInt_lt, Int32.le_iff_toInt_le, sv_i0, sv_i1, sv_i2, sv_i3, sv_i4, sv_i5, sv_i6, sv_i7, sv_i8, sv_i9, sv_i10, sv_i16, sv_i17, sv_i20, sv_i32, sv_i40, sv_i64, sv_i100, sv_i126, sv_i255, sv_i600, sv_i1500, sv_i65536, sv_im1] at *; omega)
            · refine v_iload dX13_place_54 5 rfl ?_
              refine v_bipush (v := 7) dX13_place_56 (by decide) ?_
              refine v_icmp_le (tgt := 65) dX13_place_58 (by decide) (fun c_58 => ?_) (fun c_58 => ?_)
              · refine v_iconst (v := 0) dX13_place_65 (by decide) ?_
                refine v_putf 0 (fs' := _) (ci := 11) (C := RX13) (T := TX13) (N := 71) (ty := .int) rfl iwX13_place_X13 tyX13 tyX13_ok nmX13 (Nat.le_of_ble_eq_true rfl) (by decide +kernel) rfl rfl dX13_place_66 rfl rfl (by repeat (first | (with_reducible refine sv_us.trans ?_; exact rfl) | with_reducible assumption | with_reducible refine (sv_un (by omega)).trans ?_)) (by first | omega | (simp only [List.length_set]; omega)) rfl ?_
                refine v_aload_n dX13_place_69 rfl 0 rfl ?_
                refine v_getf 0 (ci := 11) (C := RX13) (T := TX13) (N := 71) rfl iwX13_place_X13 (Nat.le_of_ble_eq_true rfl) (by decide +kernel) dX13_place_70 (by repeat (first | (with_reducible refine sv_us.trans ?_; exact rfl) | with_reducible assumption | with_reducible refine (sv_un (by omega)).trans ?_)) (by repeat (first | with_reducible assumption | (with_reducible refine (sv_ls (by first | omega | (simp only [List.length_set]; omega))).trans ?_; exact rfl) | with_reducible refine (List.getElem?_set_ne (by decide)).trans ?_)) ?_
                refine v_if_le (tgt := 78) dX13_place_73 (by decide) (fun c_73 => ?_) (fun c_73 => ?_)
                · refine v_aload_n dX13_place_78 rfl 0 rfl ?_
                  refine v_iload_n dX13_place_79 rfl 2 rfl ?_
                  refine v_callVq (M' := mX13_markUnder) (n := 1) (As := [_]) (ci := 11) (r := (RX13, TX13, 71)) gX13_place_X13_markUnder rfl (by decide +kernel) ⟨(Nat.le_of_ble_eq_true rfl), (Nat.le_of_ble_eq_true rfl)⟩ rfl rfl dX13_place_80 rfl ⟨(Nat.le_of_ble_eq_true rfl), (Nat.le_of_ble_eq_true rfl)⟩ (Nat.le_of_ble_eq_true rfl) (by repeat (first | (with_reducible refine sv_us.trans ?_; exact rfl) | with_reducible assumption | with_reducible refine (sv_un (by omega)).trans ?_)) rfl (m_markUnder G _ _ b pl nc (fs.set 0 (.int 0)) p3 p4 fh fg (by rw [List.length_set]; exact hlen) sv_us ((List.getElem?_set_ne (by decide)).trans f_under) ((List.getElem?_set_ne (by decide)).trans f_places) ((List.getElem?_set_ne (by decide)).trans f_placeIn) ((List.getElem?_set_ne (by decide)).trans f_placeOf) (by repeat (first | with_reducible assumption | with_reducible refine (sv_un (by omega)).trans ?_)) (by repeat (first | with_reducible assumption | with_reducible refine (sv_un (by omega)).trans ?_)) hpl hnc hpp o1 ho1 u0 (by repeat (first | with_reducible assumption | with_reducible refine (sv_un (by omega)).trans ?_))) (fun v h1 z1 hq => ?_)
                  obtain ⟨rfl, rfl, ⟨uf, hu, hud⟩, hfr⟩ := hq
                  refine v_aload_n dX13_place_83 rfl 0 rfl ?_
                  refine v_getf 35 (ci := 11) (C := RX13) (T := TX13) (N := 71) rfl iwX13_place_X13 (Nat.le_of_ble_eq_true rfl) (by decide +kernel) dX13_place_84 (by repeat (first | (with_reducible refine sv_us.trans ?_; exact rfl) | with_reducible assumption | with_reducible refine (sv_un (by omega)).trans ?_ | with_reducible refine (hfr _ (by omega)).trans ?_)) (by repeat (first | with_reducible assumption | (with_reducible refine (sv_ls (by first | omega | (simp only [List.length_set]; omega))).trans ?_; exact rfl) | with_reducible refine (List.getElem?_set_ne (by decide)).trans ?_)) ?_
                  refine v_iload_n dX13_place_87 rfl 1 rfl ?_
                  refine v_zaldS (v := uf c1) dX13_place_88 (by repeat (first | (with_reducible refine sv_us.trans ?_; exact rfl) | with_reducible assumption | with_reducible refine (sv_un (by omega)).trans ?_ | with_reducible refine (hfr _ (by omega)).trans ?_)) (vp_in_nI (by omega) (by omega)) (by rw [nI_clamp (by omega)]) ?_
                  refine v_if_eq (tgt := 94) dX13_place_89 (by decide) (fun c_89 => ?_) (fun c_89 => ?_)
                  · refine v_aload_n dX13_place_94 rfl 0 rfl ?_
                    refine v_getf 11 (ci := 11) (C := RX13) (T := TX13) (N := 71) rfl iwX13_place_X13 (Nat.le_of_ble_eq_true rfl) (by decide +kernel) dX13_place_95 (by repeat (first | (with_reducible refine sv_us.trans ?_; exact rfl) | with_reducible assumption | with_reducible refine (sv_un (by omega)).trans ?_ | with_reducible refine (hfr _ (by omega)).trans ?_)) (by repeat (first | with_reducible assumption | (with_reducible refine (sv_ls (by first | omega | (simp only [List.length_set]; omega))).trans ?_; exact rfl) | with_reducible refine (List.getElem?_set_ne (by decide)).trans ?_)) ?_
                    refine v_aload_n dX13_place_98 rfl 0 rfl ?_
                    refine v_getf 10 (ci := 11) (C := RX13) (T := TX13) (N := 71) rfl iwX13_place_X13 (Nat.le_of_ble_eq_true rfl) (by decide +kernel) dX13_place_99 (by repeat (first | (with_reducible refine sv_us.trans ?_; exact rfl) | with_reducible assumption | with_reducible refine (sv_un (by omega)).trans ?_ | with_reducible refine (hfr _ (by omega)).trans ?_)) (by repeat (first | with_reducible assumption | (with_reducible refine (sv_ls (by first | omega | (simp only [List.length_set]; omega))).trans ?_; exact rfl) | with_reducible refine (List.getElem?_set_ne (by decide)).trans ?_)) ?_
                    refine v_iload_n dX13_place_102 rfl 1 rfl ?_
                    refine v_iast dX13_place_103 (by repeat (first | (with_reducible refine sv_us.trans ?_; exact rfl) | with_reducible assumption | with_reducible refine (sv_un (by omega)).trans ?_ | with_reducible refine (hfr _ (by omega)).trans ?_)) (vp_in_nI hn (by omega)) ?_
                    refine v_aload_n dX13_place_104 rfl 0 rfl ?_
                    refine v_getf 12 (ci := 11) (C := RX13) (T := TX13) (N := 71) rfl iwX13_place_X13 (Nat.le_of_ble_eq_true rfl) (by decide +kernel) dX13_place_105 (by repeat (first | (with_reducible refine sv_us.trans ?_; exact rfl) | with_reducible assumption | with_reducible refine (sv_un (by omega)).trans ?_ | with_reducible refine (hfr _ (by omega)).trans ?_)) (by repeat (first | with_reducible assumption | (with_reducible refine (sv_ls (by first | omega | (simp only [List.length_set]; omega))).trans ?_; exact rfl) | with_reducible refine (List.getElem?_set_ne (by decide)).trans ?_)) ?_
                    refine v_aload_n dX13_place_108 rfl 0 rfl ?_
                    refine v_getf 10 (ci := 11) (C := RX13) (T := TX13) (N := 71) rfl iwX13_place_X13 (Nat.le_of_ble_eq_true rfl) (by decide +kernel) dX13_place_109 (by repeat (first | (with_reducible refine sv_us.trans ?_; exact rfl) | with_reducible assumption | with_reducible refine (sv_un (by omega)).trans ?_ | with_reducible refine (hfr _ (by omega)).trans ?_)) (by repeat (first | with_reducible assumption | (with_reducible refine (sv_ls (by first | omega | (simp only [List.length_set]; omega))).trans ?_; exact rfl) | with_reducible refine (List.getElem?_set_ne (by decide)).trans ?_)) ?_
                    refine v_iload_n dX13_place_112 rfl 2 rfl ?_
                    refine v_iast dX13_place_113 (by repeat (first | (with_reducible refine sv_us.trans ?_; exact rfl) | with_reducible assumption | with_reducible refine (sv_un (by omega)).trans ?_ | with_reducible refine (hfr _ (by omega)).trans ?_)) (vp_in_nI hn (by omega)) ?_
                    refine v_aload_n dX13_place_114 rfl 0 rfl ?_
                    refine v_getf 13 (ci := 11) (C := RX13) (T := TX13) (N := 71) rfl iwX13_place_X13 (Nat.le_of_ble_eq_true rfl) (by decide +kernel) dX13_place_115 (by repeat (first | (with_reducible refine sv_us.trans ?_; exact rfl) | with_reducible assumption | with_reducible refine (sv_un (by omega)).trans ?_ | with_reducible refine (hfr _ (by omega)).trans ?_)) (by repeat (first | with_reducible assumption | (with_reducible refine (sv_ls (by first | omega | (simp only [List.length_set]; omega))).trans ?_; exact rfl) | with_reducible refine (List.getElem?_set_ne (by decide)).trans ?_)) ?_
                    refine v_aload_n dX13_place_118 rfl 0 rfl ?_
                    refine v_getf 10 (ci := 11) (C := RX13) (T := TX13) (N := 71) rfl iwX13_place_X13 (Nat.le_of_ble_eq_true rfl) (by decide +kernel) dX13_place_119 (by repeat (first | (with_reducible refine sv_us.trans ?_; exact rfl) | with_reducible assumption | with_reducible refine (sv_un (by omega)).trans ?_ | with_reducible refine (hfr _ (by omega)).trans ?_)) (by repeat (first | with_reducible assumption | (with_reducible refine (sv_ls (by first | omega | (simp only [List.length_set]; omega))).trans ?_; exact rfl) | with_reducible refine (List.getElem?_set_ne (by decide)).trans ?_)) ?_
                    refine v_lload_n dX13_place_122 rfl 3 rfl ?_
                    refine v_last dX13_place_123 (by repeat (first | (with_reducible refine sv_us.trans ?_; exact rfl) | with_reducible assumption | with_reducible refine (sv_un (by omega)).trans ?_ | with_reducible refine (hfr _ (by omega)).trans ?_)) (vp_in_nI hn (by omega)) ?_
                    refine v_aload_n dX13_place_124 rfl 0 rfl ?_
                    refine v_getf 14 (ci := 11) (C := RX13) (T := TX13) (N := 71) rfl iwX13_place_X13 (Nat.le_of_ble_eq_true rfl) (by decide +kernel) dX13_place_125 (by repeat (first | (with_reducible refine sv_us.trans ?_; exact rfl) | with_reducible assumption | with_reducible refine (sv_un (by omega)).trans ?_ | with_reducible refine (hfr _ (by omega)).trans ?_)) (by repeat (first | with_reducible assumption | (with_reducible refine (sv_ls (by first | omega | (simp only [List.length_set]; omega))).trans ?_; exact rfl) | with_reducible refine (List.getElem?_set_ne (by decide)).trans ?_)) ?_
                    refine v_aload_n dX13_place_128 rfl 0 rfl ?_
                    refine v_getf 10 (ci := 11) (C := RX13) (T := TX13) (N := 71) rfl iwX13_place_X13 (Nat.le_of_ble_eq_true rfl) (by decide +kernel) dX13_place_129 (by repeat (first | (with_reducible refine sv_us.trans ?_; exact rfl) | with_reducible assumption | with_reducible refine (sv_un (by omega)).trans ?_ | with_reducible refine (hfr _ (by omega)).trans ?_)) (by repeat (first | with_reducible assumption | (with_reducible refine (sv_ls (by first | omega | (simp only [List.length_set]; omega))).trans ?_; exact rfl) | with_reducible refine (List.getElem?_set_ne (by decide)).trans ?_)) ?_
                    refine v_lload dX13_place_132 4 rfl ?_
                    refine v_last dX13_place_134 (by repeat (first | (with_reducible refine sv_us.trans ?_; exact rfl) | with_reducible assumption | with_reducible refine (sv_un (by omega)).trans ?_ | with_reducible refine (hfr _ (by omega)).trans ?_)) (vp_in_nI hn (by omega)) ?_
                    refine v_aload_n dX13_place_135 rfl 0 rfl ?_
                    refine v_getf 15 (ci := 11) (C := RX13) (T := TX13) (N := 71) rfl iwX13_place_X13 (Nat.le_of_ble_eq_true rfl) (by decide +kernel) dX13_place_136 (by repeat (first | (with_reducible refine sv_us.trans ?_; exact rfl) | with_reducible assumption | with_reducible refine (sv_un (by omega)).trans ?_ | with_reducible refine (hfr _ (by omega)).trans ?_)) (by repeat (first | with_reducible assumption | (with_reducible refine (sv_ls (by first | omega | (simp only [List.length_set]; omega))).trans ?_; exact rfl) | with_reducible refine (List.getElem?_set_ne (by decide)).trans ?_)) ?_
                    refine v_aload_n dX13_place_139 rfl 0 rfl ?_
                    refine v_getf 10 (ci := 11) (C := RX13) (T := TX13) (N := 71) rfl iwX13_place_X13 (Nat.le_of_ble_eq_true rfl) (by decide +kernel) dX13_place_140 (by repeat (first | (with_reducible refine sv_us.trans ?_; exact rfl) | with_reducible assumption | with_reducible refine (sv_un (by omega)).trans ?_ | with_reducible refine (hfr _ (by omega)).trans ?_)) (by repeat (first | with_reducible assumption | (with_reducible refine (sv_ls (by first | omega | (simp only [List.length_set]; omega))).trans ?_; exact rfl) | with_reducible refine (List.getElem?_set_ne (by decide)).trans ?_)) ?_
                    refine v_iload dX13_place_143 5 rfl ?_
                    refine v_iast dX13_place_145 (by repeat (first | (with_reducible refine sv_us.trans ?_; exact rfl) | with_reducible assumption | with_reducible refine (sv_un (by omega)).trans ?_ | with_reducible refine (hfr _ (by omega)).trans ?_)) (vp_in_nI hn (by omega)) ?_
                    refine v_aload_n dX13_place_146 rfl 0 rfl ?_
                    refine v_dup dX13_place_147 rfl ?_
                    refine v_getf 10 (ci := 11) (C := RX13) (T := TX13) (N := 71) rfl iwX13_place_X13 (Nat.le_of_ble_eq_true rfl) (by decide +kernel) dX13_place_148 (by repeat (first | (with_reducible refine sv_us.trans ?_; exact rfl) | with_reducible assumption | with_reducible refine (sv_un (by omega)).trans ?_ | with_reducible refine (hfr _ (by omega)).trans ?_)) (by repeat (first | with_reducible assumption | (with_reducible refine (sv_ls (by first | omega | (simp only [List.length_set]; omega))).trans ?_; exact rfl) | with_reducible refine (List.getElem?_set_ne (by decide)).trans ?_)) ?_
                    refine v_iconst (v := 1) dX13_place_151 (by decide) ?_
                    refine v_iadd dX13_place_152 ?_
                    refine v_putf 10 (fs' := _) (ci := 11) (C := RX13) (T := TX13) (N := 71) (ty := .int) rfl iwX13_place_X13 tyX13 tyX13_ok nmX13 (Nat.le_of_ble_eq_true rfl) (by decide +kernel) rfl rfl dX13_place_153 rfl rfl (by repeat (first | (with_reducible refine sv_us.trans ?_; exact rfl) | with_reducible assumption | with_reducible refine (sv_un (by omega)).trans ?_ | with_reducible refine (hfr _ (by omega)).trans ?_)) (by first | omega | (simp only [List.length_set]; omega)) rfl ?_
                    refine v_aload_n dX13_place_156 rfl 0 rfl ?_
                    refine v_getf 10 (ci := 11) (C := RX13) (T := TX13) (N := 71) rfl iwX13_place_X13 (Nat.le_of_ble_eq_true rfl) (by decide +kernel) dX13_place_157 (by repeat (first | (with_reducible refine sv_us.trans ?_; exact rfl) | with_reducible assumption | with_reducible refine (sv_un (by omega)).trans ?_ | with_reducible refine (hfr _ (by omega)).trans ?_)) (by repeat (first | with_reducible assumption | (with_reducible refine (sv_ls (by first | omega | (simp only [List.length_set]; omega))).trans ?_; exact rfl) | with_reducible refine (List.getElem?_set_ne (by decide)).trans ?_)) ?_
                    refine v_iconst (v := 1) dX13_place_160 (by decide) ?_
                    refine v_isub dX13_place_161 ?_
                    exact v_iret rfl dX13_place_162 (Nat.le_of_ble_eq_true rfl) (Nat.le_of_ble_eq_true rfl) rfl (by
    have ecl : (nI pl).toNatClampNeg = pl := nI_clamp (by omega)
    rw [ecl]
    exact ⟨rfl, ⟨uf, (by repeat (first | with_reducible assumption | with_reducible exact sv_us | with_reducible refine (sv_un (by omega)).trans ?_ | with_reducible refine (hfr _ (by omega)).trans ?_))⟩, Or.inr ⟨fun q => (hud c1 (by omega)).mpr q c_89, rfl, (by repeat (first | with_reducible assumption | with_reducible exact sv_us | with_reducible refine (sv_un (by omega)).trans ?_ | with_reducible refine (hfr _ (by omega)).trans ?_)), (by repeat (first | with_reducible assumption | with_reducible exact sv_us | with_reducible refine (sv_un (by omega)).trans ?_ | with_reducible refine (hfr _ (by omega)).trans ?_)), (by repeat (first | with_reducible assumption | with_reducible exact sv_us | with_reducible refine (sv_un (by omega)).trans ?_ | with_reducible refine (hfr _ (by omega)).trans ?_)), (by repeat (first | with_reducible assumption | with_reducible exact sv_us | with_reducible refine (sv_un (by omega)).trans ?_ | with_reducible refine (hfr _ (by omega)).trans ?_)), (by repeat (first | with_reducible assumption | with_reducible exact sv_us | with_reducible refine (sv_un (by omega)).trans ?_ | with_reducible refine (hfr _ (by omega)).trans ?_)), (by repeat (first | with_reducible assumption | with_reducible exact sv_us | with_reducible refine (sv_un (by omega)).trans ?_ | with_reducible refine (hfr _ (by omega)).trans ?_)), (fun a q1 q2 q3 => by repeat (first | with_reducible rfl | with_reducible refine (sv_un (by omega)).trans ?_ | with_reducible refine (hfr _ (by omega)).trans ?_))⟩⟩)
                  · refine v_iconst (v := (-1)) dX13_place_92 (by decide) ?_
                    exact v_iret rfl dX13_place_93 (Nat.le_of_ble_eq_true rfl) (Nat.le_of_ble_eq_true rfl) rfl ⟨rfl, ⟨uf, hu⟩, Or.inl ⟨(hud c1 (by omega)).mp c_89, rfl, (hfr _ (by omega)).trans sv_us, fun a q1 q2 => (hfr a q2).trans (sv_un q1)⟩⟩
                · exact absurd (by decide) c_73
              · exact absurd htu.2 (by simp only [Int32.lt_iff_toInt_lt, Int32.le_iff_toInt_le, sv_i0, sv_i1, sv_i2, sv_i3, sv_i4, sv_i5, sv_i6, sv_i7, sv_i8, sv_i9, sv_i10, sv_i16, sv_i17, sv_i20, sv_i32, sv_i40, sv_i64, sv_i100, sv_i126, sv_i255, sv_i600, sv_i1500, sv_i65536, sv_im1] at *; omega)
      · exact absurd ((nI_eq (b := 32) (by omega) (by omega)).mp c_27) (by omega)
    · exact absurd c_14 (by decide)

set_option maxHeartbeats 4000000 in
set_option maxRecDepth 100000 in
theorem m_place_o2 (G : sv_G) (h : sv_h) (z b : Nat) (fs : List Value) (k : Int32) (nc np pl tn nr nl : Nat) (lq lf : Int32) (nw : Nat) (gfs : ab_fs b k nc np pl tn nr nl lq lf nw fs) (hm : h (b + 220) = some (.inr (11, fs))) (c1 : Nat) (x y : Int64) (of tu : Int32) (hc1 : c1 < nc) (hnc : nc ≤ 16) (hof : ¬ (0 ≤ of ∧ of < nI nc)) : CT G mX13_place [.ref (b + 220), .int (nI c1), .int of, .long x, .long y, .int tu] h z (fun v h1 z1 => v = some (.int 0) ∧ h1 = va_up h (b + 220) (some (.inr (11, fs.set 0 (.int 1)))) ∧ z1 = z) := by
  refine CT.of (by decide +kernel) rfl rfl (Nat.le_of_ble_eq_true rfl) ?_
  have hlen := gfs.1
  have f_cells := gfs.f_cells
  refine v_aload_n dX13_place_0 rfl 0 rfl ?_
  refine v_aload_n dX13_place_1 rfl 0 rfl ?_
  refine v_iload_n dX13_place_2 rfl 1 rfl ?_
  refine v_callVq (M' := mX13_isCell) (n := 1) (As := [_]) (ci := 11) (r := (RX13, TX13, 71)) gX13_place_X13_isCell rfl (by decide +kernel) ⟨(Nat.le_of_ble_eq_true rfl), (Nat.le_of_ble_eq_true rfl)⟩ rfl rfl dX13_place_3 rfl ⟨(Nat.le_of_ble_eq_true rfl), (Nat.le_of_ble_eq_true rfl)⟩ (Nat.le_of_ble_eq_true rfl) (by repeat (first | (with_reducible refine sv_us.trans ?_; exact rfl) | with_reducible assumption | with_reducible refine (sv_un (by omega)).trans ?_)) rfl (m_isCell G _ _ _ _ hlen hm _ _ f_cells) (fun v h1 z1 hq => ?_)
  rw [if_pos (show 0 ≤ nI c1 ∧ nI c1 < nI nc from ⟨nI_le (a := 0) (by omega) (by omega), nI_lt (by omega) (by omega)⟩)] at hq
  obtain ⟨rfl, rfl, rfl⟩ := hq
  refine v_if_eq (tgt := 17) dX13_place_6 (by decide) (fun c_6 => ?_) (fun c_6 => ?_)
  · exact absurd c_6 (by decide)
  · refine v_aload_n dX13_place_9 rfl 0 rfl ?_
    refine v_iload_n dX13_place_10 rfl 2 rfl ?_
    refine v_callVq (M' := mX13_isCell) (n := 1) (As := [_]) (ci := 11) (r := (RX13, TX13, 71)) gX13_place_X13_isCell rfl (by decide +kernel) ⟨(Nat.le_of_ble_eq_true rfl), (Nat.le_of_ble_eq_true rfl)⟩ rfl rfl dX13_place_11 rfl ⟨(Nat.le_of_ble_eq_true rfl), (Nat.le_of_ble_eq_true rfl)⟩ (Nat.le_of_ble_eq_true rfl) (by repeat (first | (with_reducible refine sv_us.trans ?_; exact rfl) | with_reducible assumption | with_reducible refine (sv_un (by omega)).trans ?_)) rfl (m_isCell G _ _ _ _ hlen hm _ _ f_cells) (fun v h1 z1 hq => ?_)
    rw [if_neg hof] at hq
    obtain ⟨rfl, rfl, rfl⟩ := hq
    refine v_if_ne (tgt := 21) dX13_place_14 (by decide) (fun c_14 => ?_) (fun c_14 => ?_)
    · exact absurd rfl c_14
    · refine v_iconst (v := 1) dX13_place_17 (by decide) ?_
      refine v_goto (tgt := 66) dX13_place_18 (by decide) ?_
      refine v_putf 0 (fs' := _) (ci := 11) (C := RX13) (T := TX13) (N := 71) (ty := .int) rfl iwX13_place_X13 tyX13 tyX13_ok nmX13 (Nat.le_of_ble_eq_true rfl) (by decide +kernel) rfl rfl dX13_place_66 rfl rfl (by repeat (first | (with_reducible refine sv_us.trans ?_; exact rfl) | with_reducible assumption | with_reducible refine (sv_un (by omega)).trans ?_)) (by first | omega | (simp only [List.length_set]; omega)) rfl ?_
      refine v_aload_n dX13_place_69 rfl 0 rfl ?_
      refine v_getf 0 (ci := 11) (C := RX13) (T := TX13) (N := 71) rfl iwX13_place_X13 (Nat.le_of_ble_eq_true rfl) (by decide +kernel) dX13_place_70 (by repeat (first | (with_reducible refine sv_us.trans ?_; exact rfl) | with_reducible assumption | with_reducible refine (sv_un (by omega)).trans ?_)) (by repeat (first | with_reducible assumption | (with_reducible refine (sv_ls (by first | omega | (simp only [List.length_set]; omega))).trans ?_; exact rfl) | with_reducible refine (List.getElem?_set_ne (by decide)).trans ?_)) ?_
      refine v_if_le (tgt := 78) dX13_place_73 (by decide) (fun c_73 => ?_) (fun c_73 => ?_)
      · exact absurd c_73 (by decide)
      · refine v_iconst (v := 0) dX13_place_76 (by decide) ?_
        exact v_iret rfl dX13_place_77 (Nat.le_of_ble_eq_true rfl) (Nat.le_of_ble_eq_true rfl) rfl ⟨rfl, rfl, rfl⟩

set_option maxHeartbeats 4000000 in
set_option maxRecDepth 100000 in
theorem m_place_f (G : sv_G) (h : sv_h) (z b : Nat) (fs : List Value) (k : Int32) (nc np pl tn nr nl : Nat) (lq lf : Int32) (nw : Nat) (gfs : ab_fs b k nc np pl tn nr nl lq lf nw fs) (hm : h (b + 220) = some (.inr (11, fs))) (c1 o1 : Nat) (x y : Int64) (tu : Int32) (hc1 : c1 < nc) (ho1 : o1 < nc) (hnc : nc ≤ 16) (hpl : pl ≤ 32) (hn : pl = 32) : CT G mX13_place [.ref (b + 220), .int (nI c1), .int (nI o1), .long x, .long y, .int tu] h z (fun v h1 z1 => v = some (.int 0) ∧ h1 = va_up h (b + 220) (some (.inr (11, fs.set 0 (.int 2)))) ∧ z1 = z) := by
  refine CT.of (by decide +kernel) rfl rfl (Nat.le_of_ble_eq_true rfl) ?_
  have hlen := gfs.1
  have f_cells := gfs.f_cells
  have f_places := gfs.f_places
  refine v_aload_n dX13_place_0 rfl 0 rfl ?_
  refine v_aload_n dX13_place_1 rfl 0 rfl ?_
  refine v_iload_n dX13_place_2 rfl 1 rfl ?_
  refine v_callVq (M' := mX13_isCell) (n := 1) (As := [_]) (ci := 11) (r := (RX13, TX13, 71)) gX13_place_X13_isCell rfl (by decide +kernel) ⟨(Nat.le_of_ble_eq_true rfl), (Nat.le_of_ble_eq_true rfl)⟩ rfl rfl dX13_place_3 rfl ⟨(Nat.le_of_ble_eq_true rfl), (Nat.le_of_ble_eq_true rfl)⟩ (Nat.le_of_ble_eq_true rfl) (by repeat (first | (with_reducible refine sv_us.trans ?_; exact rfl) | with_reducible assumption | with_reducible refine (sv_un (by omega)).trans ?_)) rfl (m_isCell G _ _ _ _ hlen hm _ _ f_cells) (fun v h1 z1 hq => ?_)
  rw [if_pos (show 0 ≤ nI c1 ∧ nI c1 < nI nc from ⟨nI_le (a := 0) (by omega) (by omega), nI_lt (by omega) (by omega)⟩)] at hq
  obtain ⟨rfl, rfl, rfl⟩ := hq
  refine v_if_eq (tgt := 17) dX13_place_6 (by decide) (fun c_6 => ?_) (fun c_6 => ?_)
  · exact absurd c_6 (by decide)
  · refine v_aload_n dX13_place_9 rfl 0 rfl ?_
    refine v_iload_n dX13_place_10 rfl 2 rfl ?_
    refine v_callVq (M' := mX13_isCell) (n := 1) (As := [_]) (ci := 11) (r := (RX13, TX13, 71)) gX13_place_X13_isCell rfl (by decide +kernel) ⟨(Nat.le_of_ble_eq_true rfl), (Nat.le_of_ble_eq_true rfl)⟩ rfl rfl dX13_place_11 rfl ⟨(Nat.le_of_ble_eq_true rfl), (Nat.le_of_ble_eq_true rfl)⟩ (Nat.le_of_ble_eq_true rfl) (by repeat (first | (with_reducible refine sv_us.trans ?_; exact rfl) | with_reducible assumption | with_reducible refine (sv_un (by omega)).trans ?_)) rfl (m_isCell G _ _ _ _ hlen hm _ _ f_cells) (fun v h1 z1 hq => ?_)
    rw [if_pos (show 0 ≤ nI o1 ∧ nI o1 < nI nc from ⟨nI_le (a := 0) (by omega) (by omega), nI_lt (by omega) (by omega)⟩)] at hq
    obtain ⟨rfl, rfl, rfl⟩ := hq
    refine v_if_ne (tgt := 21) dX13_place_14 (by decide) (fun c_14 => ?_) (fun c_14 => ?_)
    · refine v_aload_n dX13_place_21 rfl 0 rfl ?_
      refine v_getf 10 (ci := 11) (C := RX13) (T := TX13) (N := 71) rfl iwX13_place_X13 (Nat.le_of_ble_eq_true rfl) (by decide +kernel) dX13_place_22 (by repeat (first | (with_reducible refine sv_us.trans ?_; exact rfl) | with_reducible assumption | with_reducible refine (sv_un (by omega)).trans ?_)) (by repeat (first | with_reducible assumption | (with_reducible refine (sv_ls (by first | omega | (simp only [List.length_set]; omega))).trans ?_; exact rfl) | with_reducible refine (List.getElem?_set_ne (by decide)).trans ?_)) ?_
      refine v_bipush (v := 32) dX13_place_25 (by decide) ?_
      refine v_icmp_ne (tgt := 34) dX13_place_27 (by decide) (fun c_27 => ?_) (fun c_27 => ?_)
      · exact absurd (by rw [hn]; rfl) c_27
      · refine v_iconst (v := 2) dX13_place_30 (by decide) ?_
        refine v_goto (tgt := 66) dX13_place_31 (by decide) ?_
        refine v_putf 0 (fs' := _) (ci := 11) (C := RX13) (T := TX13) (N := 71) (ty := .int) rfl iwX13_place_X13 tyX13 tyX13_ok nmX13 (Nat.le_of_ble_eq_true rfl) (by decide +kernel) rfl rfl dX13_place_66 rfl rfl (by repeat (first | (with_reducible refine sv_us.trans ?_; exact rfl) | with_reducible assumption | with_reducible refine (sv_un (by omega)).trans ?_)) (by first | omega | (simp only [List.length_set]; omega)) rfl ?_
        refine v_aload_n dX13_place_69 rfl 0 rfl ?_
        refine v_getf 0 (ci := 11) (C := RX13) (T := TX13) (N := 71) rfl iwX13_place_X13 (Nat.le_of_ble_eq_true rfl) (by decide +kernel) dX13_place_70 (by repeat (first | (with_reducible refine sv_us.trans ?_; exact rfl) | with_reducible assumption | with_reducible refine (sv_un (by omega)).trans ?_)) (by repeat (first | with_reducible assumption | (with_reducible refine (sv_ls (by first | omega | (simp only [List.length_set]; omega))).trans ?_; exact rfl) | with_reducible refine (List.getElem?_set_ne (by decide)).trans ?_)) ?_
        refine v_if_le (tgt := 78) dX13_place_73 (by decide) (fun c_73 => ?_) (fun c_73 => ?_)
        · exact absurd c_73 (by decide)
        · refine v_iconst (v := 0) dX13_place_76 (by decide) ?_
          exact v_iret rfl dX13_place_77 (Nat.le_of_ble_eq_true rfl) (Nat.le_of_ble_eq_true rfl) rfl ⟨rfl, rfl, rfl⟩
    · exact absurd c_14 (by decide)

set_option maxHeartbeats 4000000 in
set_option maxRecDepth 100000 in
theorem m_place_a (G : sv_G) (h : sv_h) (z b : Nat) (fs : List Value) (k : Int32) (nc np pl tn nr nl : Nat) (lq lf : Int32) (nw : Nat) (gfs : ab_fs b k nc np pl tn nr nl lq lf nw fs) (hm : h (b + 220) = some (.inr (11, fs))) (c1 o1 : Nat) (x y : Int64) (tu : Int32) (hc1 : c1 < nc) (ho1 : o1 < nc) (hnc : nc ≤ 16) (hpl : pl ≤ 32) (hn : pl < 32) (hc : ¬ ((¬ x < -10000 ∧ x ≤ 10000) ∧ (¬ y < -10000 ∧ y ≤ 10000) ∧ (0 ≤ tu ∧ tu < 8))) : CT G mX13_place [.ref (b + 220), .int (nI c1), .int (nI o1), .long x, .long y, .int tu] h z (fun v h1 z1 => v = some (.int 0) ∧ h1 = va_up h (b + 220) (some (.inr (11, fs.set 0 (.int 3)))) ∧ z1 = z) := by
  refine CT.of (by decide +kernel) rfl rfl (Nat.le_of_ble_eq_true rfl) ?_
  have hlen := gfs.1
  have f_cells := gfs.f_cells
  have f_places := gfs.f_places
  refine v_aload_n dX13_place_0 rfl 0 rfl ?_
  refine v_aload_n dX13_place_1 rfl 0 rfl ?_
  refine v_iload_n dX13_place_2 rfl 1 rfl ?_
  refine v_callVq (M' := mX13_isCell) (n := 1) (As := [_]) (ci := 11) (r := (RX13, TX13, 71)) gX13_place_X13_isCell rfl (by decide +kernel) ⟨(Nat.le_of_ble_eq_true rfl), (Nat.le_of_ble_eq_true rfl)⟩ rfl rfl dX13_place_3 rfl ⟨(Nat.le_of_ble_eq_true rfl), (Nat.le_of_ble_eq_true rfl)⟩ (Nat.le_of_ble_eq_true rfl) (by repeat (first | (with_reducible refine sv_us.trans ?_; exact rfl) | with_reducible assumption | with_reducible refine (sv_un (by omega)).trans ?_)) rfl (m_isCell G _ _ _ _ hlen hm _ _ f_cells) (fun v h1 z1 hq => ?_)
  rw [if_pos (show 0 ≤ nI c1 ∧ nI c1 < nI nc from ⟨nI_le (a := 0) (by omega) (by omega), nI_lt (by omega) (by omega)⟩)] at hq
  obtain ⟨rfl, rfl, rfl⟩ := hq
  refine v_if_eq (tgt := 17) dX13_place_6 (by decide) (fun c_6 => ?_) (fun c_6 => ?_)
  · exact absurd c_6 (by decide)
  · refine v_aload_n dX13_place_9 rfl 0 rfl ?_
    refine v_iload_n dX13_place_10 rfl 2 rfl ?_
    refine v_callVq (M' := mX13_isCell) (n := 1) (As := [_]) (ci := 11) (r := (RX13, TX13, 71)) gX13_place_X13_isCell rfl (by decide +kernel) ⟨(Nat.le_of_ble_eq_true rfl), (Nat.le_of_ble_eq_true rfl)⟩ rfl rfl dX13_place_11 rfl ⟨(Nat.le_of_ble_eq_true rfl), (Nat.le_of_ble_eq_true rfl)⟩ (Nat.le_of_ble_eq_true rfl) (by repeat (first | (with_reducible refine sv_us.trans ?_; exact rfl) | with_reducible assumption | with_reducible refine (sv_un (by omega)).trans ?_)) rfl (m_isCell G _ _ _ _ hlen hm _ _ f_cells) (fun v h1 z1 hq => ?_)
    rw [if_pos (show 0 ≤ nI o1 ∧ nI o1 < nI nc from ⟨nI_le (a := 0) (by omega) (by omega), nI_lt (by omega) (by omega)⟩)] at hq
    obtain ⟨rfl, rfl, rfl⟩ := hq
    refine v_if_ne (tgt := 21) dX13_place_14 (by decide) (fun c_14 => ?_) (fun c_14 => ?_)
    · refine v_aload_n dX13_place_21 rfl 0 rfl ?_
      refine v_getf 10 (ci := 11) (C := RX13) (T := TX13) (N := 71) rfl iwX13_place_X13 (Nat.le_of_ble_eq_true rfl) (by decide +kernel) dX13_place_22 (by repeat (first | (with_reducible refine sv_us.trans ?_; exact rfl) | with_reducible assumption | with_reducible refine (sv_un (by omega)).trans ?_)) (by repeat (first | with_reducible assumption | (with_reducible refine (sv_ls (by first | omega | (simp only [List.length_set]; omega))).trans ?_; exact rfl) | with_reducible refine (List.getElem?_set_ne (by decide)).trans ?_)) ?_
      refine v_bipush (v := 32) dX13_place_25 (by decide) ?_
      refine v_icmp_ne (tgt := 34) dX13_place_27 (by decide) (fun c_27 => ?_) (fun c_27 => ?_)
      · refine v_lload_n dX13_place_34 rfl 3 rfl ?_
        refine v_callSq (M' := mX13_isIn) (n := 1) (As := [_]) ggX13_place_X13_isIn (by decide +kernel) (by decide +kernel) (by decide +kernel) rfl (by decide +kernel) ⟨(Nat.le_of_ble_eq_true rfl), (Nat.le_of_ble_eq_true rfl)⟩ dX13_place_35 rfl ⟨(Nat.le_of_ble_eq_true rfl), (Nat.le_of_ble_eq_true rfl)⟩ (Nat.le_of_ble_eq_true rfl) rfl (m_isIn G _ _ x) (fun v h1 z1 hq => ?_)
        obtain ⟨rfl, rfl, rfl⟩ := hq
        refine v_if_eq (tgt := 61) dX13_place_38 (by decide) (fun c_38 => ?_) (fun c_38 => ?_)
        · refine v_iconst (v := 3) dX13_place_61 (by decide) ?_
          refine v_goto (tgt := 66) dX13_place_62 (by decide) ?_
          refine v_putf 0 (fs' := _) (ci := 11) (C := RX13) (T := TX13) (N := 71) (ty := .int) rfl iwX13_place_X13 tyX13 tyX13_ok nmX13 (Nat.le_of_ble_eq_true rfl) (by decide +kernel) rfl rfl dX13_place_66 rfl rfl (by repeat (first | (with_reducible refine sv_us.trans ?_; exact rfl) | with_reducible assumption | with_reducible refine (sv_un (by omega)).trans ?_)) (by first | omega | (simp only [List.length_set]; omega)) rfl ?_
          refine v_aload_n dX13_place_69 rfl 0 rfl ?_
          refine v_getf 0 (ci := 11) (C := RX13) (T := TX13) (N := 71) rfl iwX13_place_X13 (Nat.le_of_ble_eq_true rfl) (by decide +kernel) dX13_place_70 (by repeat (first | (with_reducible refine sv_us.trans ?_; exact rfl) | with_reducible assumption | with_reducible refine (sv_un (by omega)).trans ?_)) (by repeat (first | with_reducible assumption | (with_reducible refine (sv_ls (by first | omega | (simp only [List.length_set]; omega))).trans ?_; exact rfl) | with_reducible refine (List.getElem?_set_ne (by decide)).trans ?_)) ?_
          refine v_if_le (tgt := 78) dX13_place_73 (by decide) (fun c_73 => ?_) (fun c_73 => ?_)
          · exact absurd c_73 (by decide)
          · refine v_iconst (v := 0) dX13_place_76 (by decide) ?_
            exact v_iret rfl dX13_place_77 (Nat.le_of_ble_eq_true rfl) (Nat.le_of_ble_eq_true rfl) rfl ⟨rfl, rfl, rfl⟩
        · refine v_lload dX13_place_41 4 rfl ?_
          refine v_callSq (M' := mX13_isIn) (n := 1) (As := [_]) ggX13_place_X13_isIn (by decide +kernel) (by decide +kernel) (by decide +kernel) rfl (by decide +kernel) ⟨(Nat.le_of_ble_eq_true rfl), (Nat.le_of_ble_eq_true rfl)⟩ dX13_place_43 rfl ⟨(Nat.le_of_ble_eq_true rfl), (Nat.le_of_ble_eq_true rfl)⟩ (Nat.le_of_ble_eq_true rfl) rfl (m_isIn G _ _ y) (fun v h1 z1 hq => ?_)
          obtain ⟨rfl, rfl, rfl⟩ := hq
          refine v_if_eq (tgt := 61) dX13_place_46 (by decide) (fun c_46 => ?_) (fun c_46 => ?_)
          · refine v_iconst (v := 3) dX13_place_61 (by decide) ?_
            refine v_goto (tgt := 66) dX13_place_62 (by decide) ?_
            refine v_putf 0 (fs' := _) (ci := 11) (C := RX13) (T := TX13) (N := 71) (ty := .int) rfl iwX13_place_X13 tyX13 tyX13_ok nmX13 (Nat.le_of_ble_eq_true rfl) (by decide +kernel) rfl rfl dX13_place_66 rfl rfl (by repeat (first | (with_reducible refine sv_us.trans ?_; exact rfl) | with_reducible assumption | with_reducible refine (sv_un (by omega)).trans ?_)) (by first | omega | (simp only [List.length_set]; omega)) rfl ?_
            refine v_aload_n dX13_place_69 rfl 0 rfl ?_
            refine v_getf 0 (ci := 11) (C := RX13) (T := TX13) (N := 71) rfl iwX13_place_X13 (Nat.le_of_ble_eq_true rfl) (by decide +kernel) dX13_place_70 (by repeat (first | (with_reducible refine sv_us.trans ?_; exact rfl) | with_reducible assumption | with_reducible refine (sv_un (by omega)).trans ?_)) (by repeat (first | with_reducible assumption | (with_reducible refine (sv_ls (by first | omega | (simp only [List.length_set]; omega))).trans ?_; exact rfl) | with_reducible refine (List.getElem?_set_ne (by decide)).trans ?_)) ?_
            refine v_if_le (tgt := 78) dX13_place_73 (by decide) (fun c_73 => ?_) (fun c_73 => ?_)
            · exact absurd c_73 (by decide)
            · refine v_iconst (v := 0) dX13_place_76 (by decide) ?_
              exact v_iret rfl dX13_place_77 (Nat.le_of_ble_eq_true rfl) (Nat.le_of_ble_eq_true rfl) rfl ⟨rfl, rfl, rfl⟩
          · refine v_iload dX13_place_49 5 rfl ?_
            refine v_if_lt (tgt := 61) dX13_place_51 (by decide) (fun c_51 => ?_) (fun c_51 => ?_)
            · refine v_iconst (v := 3) dX13_place_61 (by decide) ?_
              refine v_goto (tgt := 66) dX13_place_62 (by decide) ?_
              refine v_putf 0 (fs' := _) (ci := 11) (C := RX13) (T := TX13) (N := 71) (ty := .int) rfl iwX13_place_X13 tyX13 tyX13_ok nmX13 (Nat.le_of_ble_eq_true rfl) (by decide +kernel) rfl rfl dX13_place_66 rfl rfl (by repeat (first | (with_reducible refine sv_us.trans ?_; exact rfl) | with_reducible assumption | with_reducible refine (sv_un (by omega)).trans ?_)) (by first | omega | (simp only [List.length_set]; omega)) rfl ?_
              refine v_aload_n dX13_place_69 rfl 0 rfl ?_
              refine v_getf 0 (ci := 11) (C := RX13) (T := TX13) (N := 71) rfl iwX13_place_X13 (Nat.le_of_ble_eq_true rfl) (by decide +kernel) dX13_place_70 (by repeat (first | (with_reducible refine sv_us.trans ?_; exact rfl) | with_reducible assumption | with_reducible refine (sv_un (by omega)).trans ?_)) (by repeat (first | with_reducible assumption | (with_reducible refine (sv_ls (by first | omega | (simp only [List.length_set]; omega))).trans ?_; exact rfl) | with_reducible refine (List.getElem?_set_ne (by decide)).trans ?_)) ?_
              refine v_if_le (tgt := 78) dX13_place_73 (by decide) (fun c_73 => ?_) (fun c_73 => ?_)
              · exact absurd c_73 (by decide)
              · refine v_iconst (v := 0) dX13_place_76 (by decide) ?_
                exact v_iret rfl dX13_place_77 (Nat.le_of_ble_eq_true rfl) (Nat.le_of_ble_eq_true rfl) rfl ⟨rfl, rfl, rfl⟩
            · refine v_iload dX13_place_54 5 rfl ?_
              refine v_bipush (v := 7) dX13_place_56 (by decide) ?_
              refine v_icmp_le (tgt := 65) dX13_place_58 (by decide) (fun c_58 => ?_) (fun c_58 => ?_)
              · exact absurd ⟨sv_ifn c_38, sv_ifn c_46, Int32.not_lt.mp c_51, (by simp only [Int32.lt_iff_toInt_lt, Int32.le_iff_toInt_le, sv_i0, sv_i1, sv_i2, sv_i3, sv_i4, sv_i5, sv_i6, sv_i7, sv_i8, sv_i9, sv_i10, sv_i16, sv_i17, sv_i20, sv_i32, sv_i40, sv_i64, sv_i100, sv_i126, sv_i255, sv_i600, sv_i1500, sv_i65536, sv_im1] at *; omega)⟩ hc
              · refine v_iconst (v := 3) dX13_place_61 (by decide) ?_
                refine v_goto (tgt := 66) dX13_place_62 (by decide) ?_
                refine v_putf 0 (fs' := _) (ci := 11) (C := RX13) (T := TX13) (N := 71) (ty := .int) rfl iwX13_place_X13 tyX13 tyX13_ok nmX13 (Nat.le_of_ble_eq_true rfl) (by decide +kernel) rfl rfl dX13_place_66 rfl rfl (by repeat (first | (with_reducible refine sv_us.trans ?_; exact rfl) | with_reducible assumption | with_reducible refine (sv_un (by omega)).trans ?_)) (by first | omega | (simp only [List.length_set]; omega)) rfl ?_
                refine v_aload_n dX13_place_69 rfl 0 rfl ?_
                refine v_getf 0 (ci := 11) (C := RX13) (T := TX13) (N := 71) rfl iwX13_place_X13 (Nat.le_of_ble_eq_true rfl) (by decide +kernel) dX13_place_70 (by repeat (first | (with_reducible refine sv_us.trans ?_; exact rfl) | with_reducible assumption | with_reducible refine (sv_un (by omega)).trans ?_)) (by repeat (first | with_reducible assumption | (with_reducible refine (sv_ls (by first | omega | (simp only [List.length_set]; omega))).trans ?_; exact rfl) | with_reducible refine (List.getElem?_set_ne (by decide)).trans ?_)) ?_
                refine v_if_le (tgt := 78) dX13_place_73 (by decide) (fun c_73 => ?_) (fun c_73 => ?_)
                · exact absurd c_73 (by decide)
                · refine v_iconst (v := 0) dX13_place_76 (by decide) ?_
                  exact v_iret rfl dX13_place_77 (Nat.le_of_ble_eq_true rfl) (Nat.le_of_ble_eq_true rfl) rfl ⟨rfl, rfl, rfl⟩
      · exact absurd ((nI_eq (b := 32) (by omega) (by omega)).mp c_27) (by omega)
    · exact absurd c_14 (by decide)

