section GU
variable {gu : Nat → Int64}
theorem iwX13_twice_X13 : ∀ w ∈ wsX130, w ∈ wsX13_twice := by decide +kernel
set_option maxRecDepth 20000 in
theorem ggX13_twice_X13_cornerX : GoodIn wsX13_twice wsX13_cornerX := goodIn_r _ [6, 7, 1, 13, 14, 15, 16, 17, 18, 19, 20, 21, 22, 23, 24, 25, 26, 27, 28, 29, 30, 31, 32, 33, 34, 35, 36, 37, 38, 39, 40, 41, 42, 43, 44, 45, 46, 47, 48, 49, 50, 51, 52, 53, 54, 55, 56, 57, 58, 59, 60, 61, 62, 63, 64, 65, 66, 67, 68, 69, 70, 71, 72, 73, 74, 75, 76, 77, 78, 79, 80, 81, 82, 83] (by decide +kernel) (by decide +kernel)
set_option maxRecDepth 20000 in
theorem gX13_twice_X13_cornerX : GoodIn wsX13_twice (wsV RX13 176 RX13 yX13_cornerX wsX13_cornerX) := goodIn_app (goodIn_of _ (by decide +kernel)) ggX13_twice_X13_cornerX
set_option maxRecDepth 20000 in
theorem ggX13_twice_X13_cornerY : GoodIn wsX13_twice wsX13_cornerY := goodIn_r _ [11, 12, 1, 13, 14, 15, 16, 17, 18, 19, 20, 21, 22, 23, 24, 25, 26, 27, 28, 29, 30, 31, 32, 33, 34, 35, 36, 37, 38, 39, 40, 41, 42, 43, 44, 45, 46, 47, 48, 49, 50, 51, 52, 53, 54, 55, 56, 57, 58, 59, 60, 61, 62, 63, 64, 65, 66, 67, 68, 69, 70, 71, 72, 73, 74, 75, 76, 77, 78, 79, 80, 81, 82, 83] (by decide +kernel) (by decide +kernel)
set_option maxRecDepth 20000 in
theorem gX13_twice_X13_cornerY : GoodIn wsX13_twice (wsV RX13 187 RX13 yX13_cornerY wsX13_cornerY) := goodIn_app (goodIn_of _ (by decide +kernel)) ggX13_twice_X13_cornerY
theorem dX13_twice_0 : decode cX13_twice 0 = .ok (.lconst 0, 1) := by decide +kernel
theorem dX13_twice_1 : decode cX13_twice 1 = .ok (.lstore_n 2, 1) := by decide +kernel
theorem dX13_twice_2 : decode cX13_twice 2 = .ok (.iconst 0, 1) := by decide +kernel
theorem dX13_twice_3 : decode cX13_twice 3 = .ok (.istore 4, 2) := by decide +kernel
theorem dX13_twice_5 : decode cX13_twice 5 = .ok (.iload 4, 2) := by decide +kernel
theorem dX13_twice_7 : decode cX13_twice 7 = .ok (.aload_n 0, 1) := by decide +kernel
theorem dX13_twice_8 : decode cX13_twice 8 = .ok (.getfield 20, 3) := by decide +kernel
theorem dX13_twice_11 : decode cX13_twice 11 = .ok (.iload_n 1, 1) := by decide +kernel
theorem dX13_twice_12 : decode cX13_twice 12 = .ok (.iaload, 1) := by decide +kernel
theorem dX13_twice_13 : decode cX13_twice 13 = .ok (.if_icmp .ge 47, 3) := by decide +kernel
theorem dX13_twice_16 : decode cX13_twice 16 = .ok (.lload_n 2, 1) := by decide +kernel
theorem dX13_twice_17 : decode cX13_twice 17 = .ok (.aload_n 0, 1) := by decide +kernel
theorem dX13_twice_18 : decode cX13_twice 18 = .ok (.iload_n 1, 1) := by decide +kernel
theorem dX13_twice_19 : decode cX13_twice 19 = .ok (.iload 4, 2) := by decide +kernel
theorem dX13_twice_21 : decode cX13_twice 21 = .ok (.invokevirtual 176, 3) := by decide +kernel
theorem dX13_twice_24 : decode cX13_twice 24 = .ok (.aload_n 0, 1) := by decide +kernel
theorem dX13_twice_25 : decode cX13_twice 25 = .ok (.iload_n 1, 1) := by decide +kernel
theorem dX13_twice_26 : decode cX13_twice 26 = .ok (.iload 4, 2) := by decide +kernel
theorem dX13_twice_28 : decode cX13_twice 28 = .ok (.iconst 1, 1) := by decide +kernel
theorem dX13_twice_29 : decode cX13_twice 29 = .ok (.iadd, 1) := by decide +kernel
theorem dX13_twice_30 : decode cX13_twice 30 = .ok (.invokevirtual 187, 3) := by decide +kernel
theorem dX13_twice_33 : decode cX13_twice 33 = .ok (.lmul, 1) := by decide +kernel
theorem dX13_twice_34 : decode cX13_twice 34 = .ok (.aload_n 0, 1) := by decide +kernel
theorem dX13_twice_35 : decode cX13_twice 35 = .ok (.iload_n 1, 1) := by decide +kernel
theorem dX13_twice_36 : decode cX13_twice 36 = .ok (.iload 4, 2) := by decide +kernel
theorem dX13_twice_38 : decode cX13_twice 38 = .ok (.iconst 1, 1) := by decide +kernel
theorem dX13_twice_39 : decode cX13_twice 39 = .ok (.iadd, 1) := by decide +kernel
theorem dX13_twice_40 : decode cX13_twice 40 = .ok (.invokevirtual 176, 3) := by decide +kernel
theorem dX13_twice_43 : decode cX13_twice 43 = .ok (.aload_n 0, 1) := by decide +kernel
theorem dX13_twice_44 : decode cX13_twice 44 = .ok (.iload_n 1, 1) := by decide +kernel
theorem dX13_twice_45 : decode cX13_twice 45 = .ok (.iload 4, 2) := by decide +kernel
theorem dX13_twice_47 : decode cX13_twice 47 = .ok (.invokevirtual 187, 3) := by decide +kernel
theorem dX13_twice_50 : decode cX13_twice 50 = .ok (.lmul, 1) := by decide +kernel
theorem dX13_twice_51 : decode cX13_twice 51 = .ok (.lsub, 1) := by decide +kernel
theorem dX13_twice_52 : decode cX13_twice 52 = .ok (.ladd, 1) := by decide +kernel
theorem dX13_twice_53 : decode cX13_twice 53 = .ok (.lstore_n 2, 1) := by decide +kernel
theorem dX13_twice_54 : decode cX13_twice 54 = .ok (.iinc 4 1, 3) := by decide +kernel
theorem dX13_twice_57 : decode cX13_twice 57 = .ok (.goto (-52), 3) := by decide +kernel
theorem dX13_twice_60 : decode cX13_twice 60 = .ok (.lload_n 2, 1) := by decide +kernel
theorem dX13_twice_61 : decode cX13_twice 61 = .ok (.lreturn, 1) := by decide +kernel
set_option maxRecDepth 20000 in
theorem ggX13_areaOf_X13_twice : GoodIn wsX13_areaOf wsX13_twice := goodIn_r _ [6, 7, 8, 9, 10, 5, 11, 12, 13, 14, 15, 16, 17, 18, 19, 20, 21, 22, 23, 24, 25, 26, 27, 28, 29, 30, 31, 32, 33, 34, 35, 36, 37, 38, 39, 40, 41, 42, 43, 44, 45, 46, 47, 48, 49, 50, 51, 52, 53, 54, 55, 56, 57, 58, 59, 60, 61, 62, 63, 64, 65, 66, 67, 68, 69, 70, 71, 72, 73, 74, 75, 76, 77, 78, 79, 80, 81, 82, 83, 84, 85, 86, 87, 88] (by decide +kernel) (by decide +kernel)
set_option maxRecDepth 20000 in
theorem gX13_areaOf_X13_twice : GoodIn wsX13_areaOf (wsV RX13 194 RX13 yX13_twice wsX13_twice) := goodIn_app (goodIn_of _ (by decide +kernel)) ggX13_areaOf_X13_twice
theorem dX13_areaOf_0 : decode cX13_areaOf 0 = .ok (.aload_n 0, 1) := by decide +kernel
theorem dX13_areaOf_1 : decode cX13_areaOf 1 = .ok (.iload_n 1, 1) := by decide +kernel
theorem dX13_areaOf_2 : decode cX13_areaOf 2 = .ok (.invokevirtual 194, 3) := by decide +kernel
theorem dX13_areaOf_5 : decode cX13_areaOf 5 = .ok (.lstore_n 2, 1) := by decide +kernel
theorem dX13_areaOf_6 : decode cX13_areaOf 6 = .ok (.lload_n 2, 1) := by decide +kernel
theorem dX13_areaOf_7 : decode cX13_areaOf 7 = .ok (.lconst 0, 1) := by decide +kernel
theorem dX13_areaOf_8 : decode cX13_areaOf 8 = .ok (.lcmp, 1) := by decide +kernel
theorem dX13_areaOf_9 : decode cX13_areaOf 9 = .ok (.ifCond .ge 8, 3) := by decide +kernel
theorem dX13_areaOf_12 : decode cX13_areaOf 12 = .ok (.lload_n 2, 1) := by decide +kernel
theorem dX13_areaOf_13 : decode cX13_areaOf 13 = .ok (.lneg, 1) := by decide +kernel
theorem dX13_areaOf_14 : decode cX13_areaOf 14 = .ok (.goto 4, 3) := by decide +kernel
theorem dX13_areaOf_17 : decode cX13_areaOf 17 = .ok (.lload_n 2, 1) := by decide +kernel
theorem dX13_areaOf_18 : decode cX13_areaOf 18 = .ok (.ldc2_w 198, 3) := by decide +kernel
theorem dX13_areaOf_21 : decode cX13_areaOf 21 = .ok (.ldiv, 1) := by decide +kernel
theorem dX13_areaOf_22 : decode cX13_areaOf 22 = .ok (.lreturn, 1) := by decide +kernel

abbrev mX13_twice : sv_M := (cX13_twice, 5, yX13_twice, wsX13_twice, (some .long), { frames := 2, cells := 0, slots := 0, locals := 60 }, [])
abbrev mX13_areaOf : sv_M := (cX13_areaOf, 4, yX13_areaOf, wsX13_areaOf, (some .long), { frames := 4, cells := 0, slots := 0, locals := 100 }, [])
theorem jN_div2 {a : Int} (h : 0 ≤ a) (h2 : a < 4611686018427387904) : jN a / 2 = jN (a / 2) := by
  have e := Int64.ofInt_tdiv (a := a) (b := 2) (by have : Int64.minValue.toInt = -9223372036854775808 := rfl; omega) (by have : Int64.maxValue.toInt = 9223372036854775807 := rfl; omega) (by decide) (by decide)
  rw [Int.tdiv_eq_ediv_of_nonneg h] at e
  exact e.symm
/-- the area of a polygon, as the model has it -/
def arM (C : Nat → Int × Int) (n : Nat) : Int := (if twS C n < 0 then -(twS C n) else twS C n) / 2
set_option maxHeartbeats 4000000 in
set_option maxRecDepth 100000 in
theorem l_tw (G : sv_G) (z b nc np pl : Nat) (R : Nat → Bool) (hm p3 p4 sz : Nat → Nat) (ly vo : Nat → Int32) (mp : Nat → mvT) (X Y : Nat → Nat → Int) (hb : sv_h) (fs0 : List Value) (hq0 : mfq_ b nc np pl fs0) (MY : myl_ G hb b nc np pl R hm p3 p4 sz ly vo mp X Y) (h : sv_h) (fs : List Value) (hm9 : h (b + 220) = some (.inr (11, fs))) (hl : fs.length = 71) (SS : List Nat) (hE : fsE SS fs0 fs) (hSS : ∀ k, k ∈ stk → ¬ k ∈ SS) (fr : ∀ a, b + 221 ≤ a → a < b + 232 → h a = hb a) (p : Nat) (hp : p < np) (hp0 : 0 < sz p) (hpb : ∀ i, i < sz p → (-200000 ≤ X p i ∧ X p i ≤ 200000) ∧ (-200000 ≤ Y p i ∧ Y p i ≤ 200000)) : ∀ (e k : Nat), k + e = sz p → V G mX13_twice (sv_MQ G mX13_twice (fun v h1 z1 => v = some (.long (jN (twS (crR (fun k => (X p k, Y p k)) (sz p)) (sz p)))) ∧ h1 = h ∧ z1 = z)) 5 [(4, .int (nI k)), (2, .long (jN (twS (crR (fun k => (X p k, Y p k)) (sz p)) k))), (1, .int (nI p)), (0, .ref (b + 220))] [] h z 0 0 := by
  intro e
  induction e with
  | zero =>
    intro k hke
    obtain ⟨_, _, _, ⟨g3, y3, y3a⟩, ⟨g4, y4, y4a⟩, ⟨g5, y5, y5a⟩, _, _, _, _, _, yB, yC, yD, yE, yF⟩ := id MY
    have hqf := hq0.to (S := SS) hl hE hSS
    have hlen : fs.length = 71 := hl
    have f_size := hqf.f_size
    have f_px := hqf.f_px
    have f_py := hqf.f_py
    have w224 : ab_I G h (b + 224) 64 g3 := (fr _ (by omega) (by omega)).trans y3
    have w225 : ab_J G h (b + 225) 1024 g4 := (fr _ (by omega) (by omega)).trans y4
    have w226 : ab_J G h (b + 226) 1024 g5 := (fr _ (by omega) (by omega)).trans y5
    have zs := (yE _ hp).1
    have eX : ∀ i, i < sz p → g4 (16 * p + i) = (iN (X p i)).toInt64 := fun i hi => (y4a p hp i hi).trans (iN_64 (by have := hpb i hi; omega) (by have := hpb i hi; omega)).symm
    have eY : ∀ i, i < sz p → g5 (16 * p + i) = (iN (Y p i)).toInt64 := fun i hi => (y5a p hp i hi).trans (iN_64 (by have := hpb i hi; omega) (by have := hpb i hi; omega)).symm
    have e9 : k = sz p := by omega
    subst e9
    refine v_iload dX13_twice_5 0 rfl ?_
    refine v_aload_n dX13_twice_7 rfl 3 rfl ?_
    refine v_getf 7 (ci := 11) (C := RX13) (T := TX13) (N := 71) rfl iwX13_twice_X13 (Nat.le_of_ble_eq_true rfl) (by decide +kernel) dX13_twice_8 (by first | with_reducible assumption) (by repeat (first | with_reducible assumption | (with_reducible refine (sv_ls (by first | omega | (simp only [List.length_set]; omega))).trans ?_; exact rfl) | with_reducible refine (List.getElem?_set_ne (by decide)).trans ?_)) ?_
    refine v_iload_n dX13_twice_11 rfl 2 rfl ?_
    refine v_ialdS (v := nI (sz p)) dX13_twice_12 (by first | with_reducible assumption) (vp_in_nI (by omega) (by omega)) (by rw [nI_clamp (by omega)]; exact y3a p hp) ?_
    refine v_icmp_ge (tgt := 60) dX13_twice_13 (by decide) (fun c_13 => ?_) (fun c_13 => ?_)
    · refine v_lload_n dX13_twice_60 rfl 1 rfl ?_
      exact v_lret rfl dX13_twice_61 (Nat.le_of_ble_eq_true rfl) (Nat.le_of_ble_eq_true rfl) ⟨rfl, rfl, rfl⟩
    · exact absurd (nI_le (Nat.le_refl _) (by omega)) c_13
  | succ e ih =>
    intro k hke
    obtain ⟨_, _, _, ⟨g3, y3, y3a⟩, ⟨g4, y4, y4a⟩, ⟨g5, y5, y5a⟩, _, _, _, _, _, yB, yC, yD, yE, yF⟩ := id MY
    have hqf := hq0.to (S := SS) hl hE hSS
    have hlen : fs.length = 71 := hl
    have f_size := hqf.f_size
    have f_px := hqf.f_px
    have f_py := hqf.f_py
    have w224 : ab_I G h (b + 224) 64 g3 := (fr _ (by omega) (by omega)).trans y3
    have w225 : ab_J G h (b + 225) 1024 g4 := (fr _ (by omega) (by omega)).trans y4
    have w226 : ab_J G h (b + 226) 1024 g5 := (fr _ (by omega) (by omega)).trans y5
    have zs := (yE _ hp).1
    have eX : ∀ i, i < sz p → g4 (16 * p + i) = (iN (X p i)).toInt64 := fun i hi => (y4a p hp i hi).trans (iN_64 (by have := hpb i hi; omega) (by have := hpb i hi; omega)).symm
    have eY : ∀ i, i < sz p → g5 (16 * p + i) = (iN (Y p i)).toInt64 := fun i hi => (y5a p hp i hi).trans (iN_64 (by have := hpb i hi; omega) (by have := hpb i hi; omega)).symm
    have hks : k < sz p := by omega
    have c0 : (crR (fun k => (X p k, Y p k)) (sz p)) k = (X p k, Y p k) := (by unfold crR; rw [if_neg (by omega)])
    have c1 : (crR (fun k => (X p k, Y p k)) (sz p)) (k + 1) = (X p (gm_aft (sz p) k), Y p (gm_aft (sz p) k)) := (by
      unfold crR gm_aft
      by_cases e9 : k + 1 = sz p
      · rw [if_pos e9, if_neg (show ¬ k + 1 < sz p by omega)]
      · rw [if_neg e9, if_pos (show k + 1 < sz p by omega)])
    have ha : gm_aft (sz p) k < sz p := (by unfold gm_aft; split <;> omega)
    have b0 := hpb k hks
    have b1 := hpb _ ha
    refine v_iload dX13_twice_5 0 rfl ?_
    refine v_aload_n dX13_twice_7 rfl 3 rfl ?_
    refine v_getf 7 (ci := 11) (C := RX13) (T := TX13) (N := 71) rfl iwX13_twice_X13 (Nat.le_of_ble_eq_true rfl) (by decide +kernel) dX13_twice_8 (by first | with_reducible assumption) (by repeat (first | with_reducible assumption | (with_reducible refine (sv_ls (by first | omega | (simp only [List.length_set]; omega))).trans ?_; exact rfl) | with_reducible refine (List.getElem?_set_ne (by decide)).trans ?_)) ?_
    refine v_iload_n dX13_twice_11 rfl 2 rfl ?_
    refine v_ialdS (v := nI (sz p)) dX13_twice_12 (by first | with_reducible assumption) (vp_in_nI (by omega) (by omega)) (by rw [nI_clamp (by omega)]; exact y3a p hp) ?_
    refine v_icmp_ge (tgt := 60) dX13_twice_13 (by decide) (fun c_13 => ?_) (fun c_13 => ?_)
    · exact absurd c_13 (nI_ge hks (by omega))
    · refine v_lload_n dX13_twice_16 rfl 1 rfl ?_
      refine v_aload_n dX13_twice_17 rfl 3 rfl ?_
      refine v_iload_n dX13_twice_18 rfl 2 rfl ?_
      refine v_iload dX13_twice_19 0 rfl ?_
      refine v_callVq (M' := mX13_cornerX) (n := 2) (As := [_, _]) (ci := 11) (r := (RX13, TX13, 71)) gX13_twice_X13_cornerX rfl (by decide +kernel) ⟨(Nat.le_of_ble_eq_true rfl), (Nat.le_of_ble_eq_true rfl)⟩ rfl rfl dX13_twice_21 rfl ⟨(Nat.le_of_ble_eq_true rfl), (Nat.le_of_ble_eq_true rfl)⟩ (Nat.le_of_ble_eq_true rfl) (by first | with_reducible assumption) rfl (m_cornerX0 G _ _ b p (sz p) fs g3 g4 g5 (fun i => iN (X p i)) (fun i => iN (Y p i)) hlen hm9 f_size f_px f_py w224 w225 w226 (by omega) (y3a p hp) zs eX eY k hks) (fun v9 h9 y9 hq => v_pq hq ?_)
      refine v_aload_n dX13_twice_24 rfl 3 rfl ?_
      refine v_iload_n dX13_twice_25 rfl 2 rfl ?_
      refine v_iload dX13_twice_26 0 rfl ?_
      refine v_iconst (v := 1) dX13_twice_28 (by decide) ?_
      refine v_iadd dX13_twice_29 ?_
      refine v_callVq (M' := mX13_cornerY) (n := 2) (As := [_, _]) (ci := 11) (r := (RX13, TX13, 71)) gX13_twice_X13_cornerY rfl (by decide +kernel) ⟨(Nat.le_of_ble_eq_true rfl), (Nat.le_of_ble_eq_true rfl)⟩ rfl rfl dX13_twice_30 rfl ⟨(Nat.le_of_ble_eq_true rfl), (Nat.le_of_ble_eq_true rfl)⟩ (Nat.le_of_ble_eq_true rfl) (by first | with_reducible assumption) rfl (m_cornerY1 G _ _ b p (sz p) fs g3 g4 g5 (fun i => iN (X p i)) (fun i => iN (Y p i)) hlen hm9 f_size f_px f_py w224 w225 w226 (by omega) (y3a p hp) zs eX eY k hks) (fun v9 h9 y9 hq => v_pq hq ?_)
      refine v_lmul dX13_twice_33 ?_
      refine v_aload_n dX13_twice_34 rfl 3 rfl ?_
      refine v_iload_n dX13_twice_35 rfl 2 rfl ?_
      refine v_iload dX13_twice_36 0 rfl ?_
      refine v_iconst (v := 1) dX13_twice_38 (by decide) ?_
      refine v_iadd dX13_twice_39 ?_
      refine v_callVq (M' := mX13_cornerX) (n := 2) (As := [_, _]) (ci := 11) (r := (RX13, TX13, 71)) gX13_twice_X13_cornerX rfl (by decide +kernel) ⟨(Nat.le_of_ble_eq_true rfl), (Nat.le_of_ble_eq_true rfl)⟩ rfl rfl dX13_twice_40 rfl ⟨(Nat.le_of_ble_eq_true rfl), (Nat.le_of_ble_eq_true rfl)⟩ (Nat.le_of_ble_eq_true rfl) (by first | with_reducible assumption) rfl (m_cornerX1 G _ _ b p (sz p) fs g3 g4 g5 (fun i => iN (X p i)) (fun i => iN (Y p i)) hlen hm9 f_size f_px f_py w224 w225 w226 (by omega) (y3a p hp) zs eX eY k hks) (fun v9 h9 y9 hq => v_pq hq ?_)
      refine v_aload_n dX13_twice_43 rfl 3 rfl ?_
      refine v_iload_n dX13_twice_44 rfl 2 rfl ?_
      refine v_iload dX13_twice_45 0 rfl ?_
      refine v_callVq (M' := mX13_cornerY) (n := 2) (As := [_, _]) (ci := 11) (r := (RX13, TX13, 71)) gX13_twice_X13_cornerY rfl (by decide +kernel) ⟨(Nat.le_of_ble_eq_true rfl), (Nat.le_of_ble_eq_true rfl)⟩ rfl rfl dX13_twice_47 rfl ⟨(Nat.le_of_ble_eq_true rfl), (Nat.le_of_ble_eq_true rfl)⟩ (Nat.le_of_ble_eq_true rfl) (by first | with_reducible assumption) rfl (m_cornerY0 G _ _ b p (sz p) fs g3 g4 g5 (fun i => iN (X p i)) (fun i => iN (Y p i)) hlen hm9 f_size f_px f_py w224 w225 w226 (by omega) (y3a p hp) zs eX eY k hks) (fun v9 h9 y9 hq => v_pq hq ?_)
      refine v_lmul dX13_twice_50 ?_
      refine v_lsub dX13_twice_51 ?_
      refine v_ladd dX13_twice_52 ?_
      rw [show jN (twS (crR (fun k => (X p k, Y p k)) (sz p)) k) + ((iN (X p k)).toInt64 * (iN (Y p (gm_aft (sz p) k))).toInt64 - (iN (X p (gm_aft (sz p) k))).toInt64 * (iN (Y p k)).toInt64) = jN (twS (crR (fun k => (X p k, Y p k)) (sz p)) (k + 1)) from by rw [iN_64 (x := X p k) (by omega) (by omega), iN_64 (x := Y p k) (by omega) (by omega), iN_64 (x := X p (gm_aft (sz p) k)) (by omega) (by omega), iN_64 (x := Y p (gm_aft (sz p) k)) (by omega) (by omega), ← jN_mul, ← jN_mul, ← jN_sub, ← jN_add]; show _ = jN (twS (crR (fun k => (X p k, Y p k)) (sz p)) k + (((crR (fun k => (X p k, Y p k)) (sz p)) k).1 * ((crR (fun k => (X p k, Y p k)) (sz p)) (k + 1)).2 - ((crR (fun k => (X p k, Y p k)) (sz p)) (k + 1)).1 * ((crR (fun k => (X p k, Y p k)) (sz p)) k).2)); rw [c0, c1]]
      refine v_lstore_n (L' := [(2, _), (4, _), (1, _), (0, _)]) dX13_twice_53 rfl (Nat.le_of_ble_eq_true rfl) rfl ?_
      refine v_iinc (j := 1) (L' := [(4, _), (2, _), (1, _), (0, _)]) (v := nI (k + 1)) dX13_twice_54 rfl (nI_1 _) (Nat.le_of_ble_eq_true rfl) rfl ?_
      refine v_goto (tgt := 5) dX13_twice_57 (by decide) ?_
      refine v_sub (L' := [(4, _), (2, _), (1, _), (0, _)]) [0, 1, 2, 3] rfl ?_
      exact ih (k + 1) (by omega)

set_option maxHeartbeats 4000000 in
set_option maxRecDepth 100000 in
theorem m_twice (G : sv_G) (z b nc np pl : Nat) (R : Nat → Bool) (hm p3 p4 sz : Nat → Nat) (ly vo : Nat → Int32) (mp : Nat → mvT) (X Y : Nat → Nat → Int) (hb : sv_h) (fs0 : List Value) (hq0 : mfq_ b nc np pl fs0) (MY : myl_ G hb b nc np pl R hm p3 p4 sz ly vo mp X Y) (h : sv_h) (fs : List Value) (hm9 : h (b + 220) = some (.inr (11, fs))) (hl : fs.length = 71) (SS : List Nat) (hE : fsE SS fs0 fs) (hSS : ∀ k, k ∈ stk → ¬ k ∈ SS) (fr : ∀ a, b + 221 ≤ a → a < b + 232 → h a = hb a) (p : Nat) (hp : p < np) (hp0 : 0 < sz p) (hpb : ∀ i, i < sz p → (-200000 ≤ X p i ∧ X p i ≤ 200000) ∧ (-200000 ≤ Y p i ∧ Y p i ≤ 200000)) : CT G mX13_twice [.ref (b + 220), .int (nI p)] h z (fun v h1 z1 => v = some (.long (jN (twS (crR (fun k => (X p k, Y p k)) (sz p)) (sz p)))) ∧ h1 = h ∧ z1 = z) := by
  refine CT.of (by decide +kernel) rfl rfl (Nat.le_of_ble_eq_true rfl) ?_
  refine v_lconst (v := 0) dX13_twice_0 (by decide) ?_
  refine v_lstore_n (L' := [(2, _), (0, _), (1, _)]) dX13_twice_1 rfl (Nat.le_of_ble_eq_true rfl) rfl ?_
  refine v_iconst (v := 0) dX13_twice_2 (by decide) ?_
  refine v_istore (L' := [(4, _), (2, _), (0, _), (1, _)]) dX13_twice_3 (Nat.le_of_ble_eq_true rfl) rfl ?_
  refine v_sub (L' := [(4, _), (2, _), (1, _), (0, _)]) [0, 1, 3, 2] rfl ?_
  exact l_tw G _ b nc np pl R hm p3 p4 sz ly vo mp X Y hb fs0 hq0 MY h fs hm9 hl SS hE hSS fr p hp hp0 hpb (sz p) 0 (Nat.zero_add _)

set_option maxHeartbeats 4000000 in
set_option maxRecDepth 100000 in
theorem m_areaOf (G : sv_G) (z b nc np pl : Nat) (R : Nat → Bool) (hm p3 p4 sz : Nat → Nat) (ly vo : Nat → Int32) (mp : Nat → mvT) (X Y : Nat → Nat → Int) (hb : sv_h) (fs0 : List Value) (hq0 : mfq_ b nc np pl fs0) (MY : myl_ G hb b nc np pl R hm p3 p4 sz ly vo mp X Y) (h : sv_h) (fs : List Value) (hm9 : h (b + 220) = some (.inr (11, fs))) (hl : fs.length = 71) (SS : List Nat) (hE : fsE SS fs0 fs) (hSS : ∀ k, k ∈ stk → ¬ k ∈ SS) (fr : ∀ a, b + 221 ≤ a → a < b + 232 → h a = hb a) (p : Nat) (hp : p < np) (hp0 : 0 < sz p) (hpb : ∀ i, i < sz p → (-200000 ≤ X p i ∧ X p i ≤ 200000) ∧ (-200000 ≤ Y p i ∧ Y p i ≤ 200000)) : CT G mX13_areaOf [.ref (b + 220), .int (nI p)] h z (fun v h1 z1 => v = some (.long (jN (arM (crR (fun k => (X p k, Y p k)) (sz p)) (sz p)))) ∧ h1 = h ∧ z1 = z) := by
  refine CT.of (by decide +kernel) rfl rfl (Nat.le_of_ble_eq_true rfl) ?_
  have zs := (MY.2.2.2.2.2.2.2.2.2.2.2.2.2.2.1 _ hp).1
  have tb := twS_b (C := (crR (fun k => (X p k, Y p k)) (sz p))) (n := sz p) (fun i hi => (by
    unfold crR
    split
    · exact hpb 0 hp0
    · exact hpb i (by omega))) (sz p) (Nat.le_refl _)
  refine v_aload_n dX13_areaOf_0 rfl 0 rfl ?_
  refine v_iload_n dX13_areaOf_1 rfl 1 rfl ?_
  refine v_callVq (M' := mX13_twice) (n := 1) (As := [_]) (ci := 11) (r := (RX13, TX13, 71)) gX13_areaOf_X13_twice rfl (by decide +kernel) ⟨(Nat.le_of_ble_eq_true rfl), (Nat.le_of_ble_eq_true rfl)⟩ rfl rfl dX13_areaOf_2 rfl ⟨(Nat.le_of_ble_eq_true rfl), (Nat.le_of_ble_eq_true rfl)⟩ (Nat.le_of_ble_eq_true rfl) (by first | with_reducible assumption) rfl (m_twice G _ b nc np pl R hm p3 p4 sz ly vo mp X Y hb fs0 hq0 MY h fs hm9 hl SS hE hSS fr p hp hp0 hpb) (fun v9 h9 y9 hq => v_pq hq ?_)
  refine v_lstore_n (L' := [(2, _), (0, _), (1, _)]) dX13_areaOf_5 rfl (Nat.le_of_ble_eq_true rfl) rfl ?_
  refine v_lload_n dX13_areaOf_6 rfl 0 rfl ?_
  refine v_lconst (v := 0) dX13_areaOf_7 (by decide) ?_
  refine v_lcmp_ge (tgt := 17) dX13_areaOf_8 dX13_areaOf_9 (by decide) (fun c_9 => ?_) (fun c_9 => ?_)
  · refine v_lload_n dX13_areaOf_17 rfl 0 rfl ?_
    refine v_ldc2 (v := (2)) (by decide +kernel) dX13_areaOf_18 ?_
    refine v_ldiv dX13_areaOf_21 (by decide) ?_
    exact v_lret rfl dX13_areaOf_22 (Nat.le_of_ble_eq_true rfl) (Nat.le_of_ble_eq_true rfl) (by
          refine ⟨?_, rfl, rfl⟩
          unfold arM
          first
            | (have g := (jN_le (a := 0) (by omega) (by omega) (by omega) (by omega)).mp c_9
               rw [if_neg (Int.not_lt.mpr g), ← jN_div2 g (by omega)])
            | (have g := Int.not_le.mp (mt (jN_le (a := 0) (b := twS (crR (fun k => (X p k, Y p k)) (sz p)) (sz p)) (by omega) (by omega) (by omega) (by omega)).mpr c_9)
               rw [if_pos g, ← jN_div2 (by omega) (by omega)]))
  · refine v_lload_n dX13_areaOf_12 rfl 0 rfl ?_
    refine v_lneg dX13_areaOf_13 ?_
    rw [← jN_neg]
    refine v_goto (tgt := 18) dX13_areaOf_14 (by decide) ?_
    refine v_ldc2 (v := (2)) (by decide +kernel) dX13_areaOf_18 ?_
    refine v_ldiv dX13_areaOf_21 (by decide) ?_
    exact v_lret rfl dX13_areaOf_22 (Nat.le_of_ble_eq_true rfl) (Nat.le_of_ble_eq_true rfl) (by
          refine ⟨?_, rfl, rfl⟩
          unfold arM
          first
            | (have g := (jN_le (a := 0) (by omega) (by omega) (by omega) (by omega)).mp c_9
               rw [if_neg (Int.not_lt.mpr g), ← jN_div2 g (by omega)])
            | (have g := Int.not_le.mp (mt (jN_le (a := 0) (b := twS (crR (fun k => (X p k, Y p k)) (sz p)) (sz p)) (by omega) (by omega) (by omega) (by omega)).mpr c_9)
               rw [if_pos g, ← jN_div2 (by omega) (by omega)]))

end GU
