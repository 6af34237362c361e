theorem iwX13_boxOf_X13 : ∀ w ∈ wsX130, w ∈ wsX13_boxOf := by decide +kernel
theorem iwX13_areBoxesOver_X13 : ∀ w ∈ wsX130, w ∈ wsX13_areBoxesOver := by decide +kernel
set_option maxRecDepth 20000 in
theorem ggX13_boxOf_X13_least : GoodIn wsX13_boxOf wsX13_least := goodIn_r _ [11] (by decide +kernel) (by decide +kernel)
set_option maxRecDepth 20000 in
theorem ggX13_boxOf_X13_most : GoodIn wsX13_boxOf wsX13_most := goodIn_r _ [14] (by decide +kernel) (by decide +kernel)
theorem dX13_boxOf_0 : decode cX13_boxOf 0 = .ok (.aload_n 0, 1) := by decide +kernel
theorem dX13_boxOf_1 : decode cX13_boxOf 1 = .ok (.aload_n 0, 1) := by decide +kernel
theorem dX13_boxOf_2 : decode cX13_boxOf 2 = .ok (.getfield 104, 3) := by decide +kernel
theorem dX13_boxOf_5 : decode cX13_boxOf 5 = .ok (.bipush 17, 2) := by decide +kernel
theorem dX13_boxOf_7 : decode cX13_boxOf 7 = .ok (.iload_n 1, 1) := by decide +kernel
theorem dX13_boxOf_8 : decode cX13_boxOf 8 = .ok (.imul, 1) := by decide +kernel
theorem dX13_boxOf_9 : decode cX13_boxOf 9 = .ok (.laload, 1) := by decide +kernel
theorem dX13_boxOf_10 : decode cX13_boxOf 10 = .ok (.putfield 236, 3) := by decide +kernel
theorem dX13_boxOf_13 : decode cX13_boxOf 13 = .ok (.aload_n 0, 1) := by decide +kernel
theorem dX13_boxOf_14 : decode cX13_boxOf 14 = .ok (.aload_n 0, 1) := by decide +kernel
theorem dX13_boxOf_15 : decode cX13_boxOf 15 = .ok (.getfield 107, 3) := by decide +kernel
theorem dX13_boxOf_18 : decode cX13_boxOf 18 = .ok (.bipush 17, 2) := by decide +kernel
theorem dX13_boxOf_20 : decode cX13_boxOf 20 = .ok (.iload_n 1, 1) := by decide +kernel
theorem dX13_boxOf_21 : decode cX13_boxOf 21 = .ok (.imul, 1) := by decide +kernel
theorem dX13_boxOf_22 : decode cX13_boxOf 22 = .ok (.laload, 1) := by decide +kernel
theorem dX13_boxOf_23 : decode cX13_boxOf 23 = .ok (.putfield 239, 3) := by decide +kernel
theorem dX13_boxOf_26 : decode cX13_boxOf 26 = .ok (.aload_n 0, 1) := by decide +kernel
theorem dX13_boxOf_27 : decode cX13_boxOf 27 = .ok (.aload_n 0, 1) := by decide +kernel
theorem dX13_boxOf_28 : decode cX13_boxOf 28 = .ok (.getfield 236, 3) := by decide +kernel
theorem dX13_boxOf_31 : decode cX13_boxOf 31 = .ok (.putfield 242, 3) := by decide +kernel
theorem dX13_boxOf_34 : decode cX13_boxOf 34 = .ok (.aload_n 0, 1) := by decide +kernel
theorem dX13_boxOf_35 : decode cX13_boxOf 35 = .ok (.aload_n 0, 1) := by decide +kernel
theorem dX13_boxOf_36 : decode cX13_boxOf 36 = .ok (.getfield 239, 3) := by decide +kernel
theorem dX13_boxOf_39 : decode cX13_boxOf 39 = .ok (.putfield 245, 3) := by decide +kernel
theorem dX13_boxOf_42 : decode cX13_boxOf 42 = .ok (.iconst 1, 1) := by decide +kernel
theorem dX13_boxOf_43 : decode cX13_boxOf 43 = .ok (.istore_n 2, 1) := by decide +kernel
theorem dX13_boxOf_44 : decode cX13_boxOf 44 = .ok (.iload_n 2, 1) := by decide +kernel
theorem dX13_boxOf_45 : decode cX13_boxOf 45 = .ok (.aload_n 0, 1) := by decide +kernel
theorem dX13_boxOf_46 : decode cX13_boxOf 46 = .ok (.getfield 101, 3) := by decide +kernel
theorem dX13_boxOf_49 : decode cX13_boxOf 49 = .ok (.iload_n 1, 1) := by decide +kernel
theorem dX13_boxOf_50 : decode cX13_boxOf 50 = .ok (.iaload, 1) := by decide +kernel
theorem dX13_boxOf_51 : decode cX13_boxOf 51 = .ok (.if_icmp .ge 97, 3) := by decide +kernel
theorem dX13_boxOf_54 : decode cX13_boxOf 54 = .ok (.aload_n 0, 1) := by decide +kernel
theorem dX13_boxOf_55 : decode cX13_boxOf 55 = .ok (.aload_n 0, 1) := by decide +kernel
theorem dX13_boxOf_56 : decode cX13_boxOf 56 = .ok (.getfield 236, 3) := by decide +kernel
theorem dX13_boxOf_59 : decode cX13_boxOf 59 = .ok (.aload_n 0, 1) := by decide +kernel
theorem dX13_boxOf_60 : decode cX13_boxOf 60 = .ok (.getfield 104, 3) := by decide +kernel
theorem dX13_boxOf_63 : decode cX13_boxOf 63 = .ok (.bipush 17, 2) := by decide +kernel
theorem dX13_boxOf_65 : decode cX13_boxOf 65 = .ok (.iload_n 1, 1) := by decide +kernel
theorem dX13_boxOf_66 : decode cX13_boxOf 66 = .ok (.imul, 1) := by decide +kernel
theorem dX13_boxOf_67 : decode cX13_boxOf 67 = .ok (.iload_n 2, 1) := by decide +kernel
theorem dX13_boxOf_68 : decode cX13_boxOf 68 = .ok (.iadd, 1) := by decide +kernel
theorem dX13_boxOf_69 : decode cX13_boxOf 69 = .ok (.laload, 1) := by decide +kernel
theorem dX13_boxOf_70 : decode cX13_boxOf 70 = .ok (.invokestatic 180, 3) := by decide +kernel
theorem dX13_boxOf_73 : decode cX13_boxOf 73 = .ok (.putfield 236, 3) := by decide +kernel
theorem dX13_boxOf_76 : decode cX13_boxOf 76 = .ok (.aload_n 0, 1) := by decide +kernel
theorem dX13_boxOf_77 : decode cX13_boxOf 77 = .ok (.aload_n 0, 1) := by decide +kernel
theorem dX13_boxOf_78 : decode cX13_boxOf 78 = .ok (.getfield 239, 3) := by decide +kernel
theorem dX13_boxOf_81 : decode cX13_boxOf 81 = .ok (.aload_n 0, 1) := by decide +kernel
theorem dX13_boxOf_82 : decode cX13_boxOf 82 = .ok (.getfield 107, 3) := by decide +kernel
theorem dX13_boxOf_85 : decode cX13_boxOf 85 = .ok (.bipush 17, 2) := by decide +kernel
theorem dX13_boxOf_87 : decode cX13_boxOf 87 = .ok (.iload_n 1, 1) := by decide +kernel
theorem dX13_boxOf_88 : decode cX13_boxOf 88 = .ok (.imul, 1) := by decide +kernel
theorem dX13_boxOf_89 : decode cX13_boxOf 89 = .ok (.iload_n 2, 1) := by decide +kernel
theorem dX13_boxOf_90 : decode cX13_boxOf 90 = .ok (.iadd, 1) := by decide +kernel
theorem dX13_boxOf_91 : decode cX13_boxOf 91 = .ok (.laload, 1) := by decide +kernel
theorem dX13_boxOf_92 : decode cX13_boxOf 92 = .ok (.invokestatic 180, 3) := by decide +kernel
theorem dX13_boxOf_95 : decode cX13_boxOf 95 = .ok (.putfield 239, 3) := by decide +kernel
theorem dX13_boxOf_98 : decode cX13_boxOf 98 = .ok (.aload_n 0, 1) := by decide +kernel
theorem dX13_boxOf_99 : decode cX13_boxOf 99 = .ok (.aload_n 0, 1) := by decide +kernel
theorem dX13_boxOf_100 : decode cX13_boxOf 100 = .ok (.getfield 242, 3) := by decide +kernel
theorem dX13_boxOf_103 : decode cX13_boxOf 103 = .ok (.aload_n 0, 1) := by decide +kernel
theorem dX13_boxOf_104 : decode cX13_boxOf 104 = .ok (.getfield 104, 3) := by decide +kernel
theorem dX13_boxOf_107 : decode cX13_boxOf 107 = .ok (.bipush 17, 2) := by decide +kernel
theorem dX13_boxOf_109 : decode cX13_boxOf 109 = .ok (.iload_n 1, 1) := by decide +kernel
theorem dX13_boxOf_110 : decode cX13_boxOf 110 = .ok (.imul, 1) := by decide +kernel
theorem dX13_boxOf_111 : decode cX13_boxOf 111 = .ok (.iload_n 2, 1) := by decide +kernel
theorem dX13_boxOf_112 : decode cX13_boxOf 112 = .ok (.iadd, 1) := by decide +kernel
theorem dX13_boxOf_113 : decode cX13_boxOf 113 = .ok (.laload, 1) := by decide +kernel
theorem dX13_boxOf_114 : decode cX13_boxOf 114 = .ok (.invokestatic 184, 3) := by decide +kernel
theorem dX13_boxOf_117 : decode cX13_boxOf 117 = .ok (.putfield 242, 3) := by decide +kernel
theorem dX13_boxOf_120 : decode cX13_boxOf 120 = .ok (.aload_n 0, 1) := by decide +kernel
theorem dX13_boxOf_121 : decode cX13_boxOf 121 = .ok (.aload_n 0, 1) := by decide +kernel
theorem dX13_boxOf_122 : decode cX13_boxOf 122 = .ok (.getfield 245, 3) := by decide +kernel
theorem dX13_boxOf_125 : decode cX13_boxOf 125 = .ok (.aload_n 0, 1) := by decide +kernel
theorem dX13_boxOf_126 : decode cX13_boxOf 126 = .ok (.getfield 107, 3) := by decide +kernel
theorem dX13_boxOf_129 : decode cX13_boxOf 129 = .ok (.bipush 17, 2) := by decide +kernel
theorem dX13_boxOf_131 : decode cX13_boxOf 131 = .ok (.iload_n 1, 1) := by decide +kernel
theorem dX13_boxOf_132 : decode cX13_boxOf 132 = .ok (.imul, 1) := by decide +kernel
theorem dX13_boxOf_133 : decode cX13_boxOf 133 = .ok (.iload_n 2, 1) := by decide +kernel
theorem dX13_boxOf_134 : decode cX13_boxOf 134 = .ok (.iadd, 1) := by decide +kernel
theorem dX13_boxOf_135 : decode cX13_boxOf 135 = .ok (.laload, 1) := by decide +kernel
theorem dX13_boxOf_136 : decode cX13_boxOf 136 = .ok (.invokestatic 184, 3) := by decide +kernel
theorem dX13_boxOf_139 : decode cX13_boxOf 139 = .ok (.putfield 245, 3) := by decide +kernel
theorem dX13_boxOf_142 : decode cX13_boxOf 142 = .ok (.iinc 2 1, 3) := by decide +kernel
theorem dX13_boxOf_145 : decode cX13_boxOf 145 = .ok (.goto (-101), 3) := by decide +kernel
theorem dX13_boxOf_148 : decode cX13_boxOf 148 = .ok (.return_, 1) := by decide +kernel
set_option maxRecDepth 20000 in
theorem ggX13_areBoxesOver_X13_boxOf : GoodIn wsX13_areBoxesOver wsX13_boxOf := goodIn_r _ [9, 10, 1, 11, 2, 3, 4, 12, 13, 14, 8, 15, 16, 17, 18, 19, 20, 21, 22, 23, 24, 25, 26, 27, 28, 29, 30, 31, 32, 33, 34, 35, 36, 37, 38, 39, 40, 41, 42, 43, 44, 45, 46, 47, 48, 49, 50, 51, 52, 53, 54, 55, 56, 57, 58, 59, 60, 61, 62, 63, 64, 65, 66, 67, 68, 69, 70, 71, 72, 73, 74, 75, 76, 77, 78, 79, 80, 81, 82, 83, 84, 85, 86, 87, 88, 89] (by decide +kernel) (by decide +kernel)
set_option maxRecDepth 20000 in
theorem gX13_areBoxesOver_X13_boxOf : GoodIn wsX13_areBoxesOver (wsV RX13 248 RX13 yX13_boxOf wsX13_boxOf) := goodIn_app (goodIn_of _ (by decide +kernel)) ggX13_areBoxesOver_X13_boxOf
set_option maxRecDepth 20000 in
theorem ggX13_areBoxesOver_X13_least : GoodIn wsX13_areBoxesOver wsX13_least := goodIn_r _ [15] (by decide +kernel) (by decide +kernel)
set_option maxRecDepth 20000 in
theorem ggX13_areBoxesOver_X13_most : GoodIn wsX13_areBoxesOver wsX13_most := goodIn_r _ [18] (by decide +kernel) (by decide +kernel)
theorem dX13_areBoxesOver_0 : decode cX13_areBoxesOver 0 = .ok (.aload_n 0, 1) := by decide +kernel
theorem dX13_areBoxesOver_1 : decode cX13_areBoxesOver 1 = .ok (.iconst 0, 1) := by decide +kernel
theorem dX13_areBoxesOver_2 : decode cX13_areBoxesOver 2 = .ok (.invokevirtual 248, 3) := by decide +kernel
theorem dX13_areBoxesOver_5 : decode cX13_areBoxesOver 5 = .ok (.aload_n 0, 1) := by decide +kernel
theorem dX13_areBoxesOver_6 : decode cX13_areBoxesOver 6 = .ok (.getfield 236, 3) := by decide +kernel
theorem dX13_areBoxesOver_9 : decode cX13_areBoxesOver 9 = .ok (.lstore_n 1, 1) := by decide +kernel
theorem dX13_areBoxesOver_10 : decode cX13_areBoxesOver 10 = .ok (.aload_n 0, 1) := by decide +kernel
theorem dX13_areBoxesOver_11 : decode cX13_areBoxesOver 11 = .ok (.getfield 239, 3) := by decide +kernel
theorem dX13_areBoxesOver_14 : decode cX13_areBoxesOver 14 = .ok (.lstore_n 3, 1) := by decide +kernel
theorem dX13_areBoxesOver_15 : decode cX13_areBoxesOver 15 = .ok (.aload_n 0, 1) := by decide +kernel
theorem dX13_areBoxesOver_16 : decode cX13_areBoxesOver 16 = .ok (.getfield 242, 3) := by decide +kernel
theorem dX13_areBoxesOver_19 : decode cX13_areBoxesOver 19 = .ok (.lstore 5, 2) := by decide +kernel
theorem dX13_areBoxesOver_21 : decode cX13_areBoxesOver 21 = .ok (.aload_n 0, 1) := by decide +kernel
theorem dX13_areBoxesOver_22 : decode cX13_areBoxesOver 22 = .ok (.getfield 245, 3) := by decide +kernel
theorem dX13_areBoxesOver_25 : decode cX13_areBoxesOver 25 = .ok (.lstore 7, 2) := by decide +kernel
theorem dX13_areBoxesOver_27 : decode cX13_areBoxesOver 27 = .ok (.aload_n 0, 1) := by decide +kernel
theorem dX13_areBoxesOver_28 : decode cX13_areBoxesOver 28 = .ok (.iconst 1, 1) := by decide +kernel
theorem dX13_areBoxesOver_29 : decode cX13_areBoxesOver 29 = .ok (.invokevirtual 248, 3) := by decide +kernel
theorem dX13_areBoxesOver_32 : decode cX13_areBoxesOver 32 = .ok (.lload 5, 2) := by decide +kernel
theorem dX13_areBoxesOver_34 : decode cX13_areBoxesOver 34 = .ok (.aload_n 0, 1) := by decide +kernel
theorem dX13_areBoxesOver_35 : decode cX13_areBoxesOver 35 = .ok (.getfield 242, 3) := by decide +kernel
theorem dX13_areBoxesOver_38 : decode cX13_areBoxesOver 38 = .ok (.invokestatic 180, 3) := by decide +kernel
theorem dX13_areBoxesOver_41 : decode cX13_areBoxesOver 41 = .ok (.lload_n 1, 1) := by decide +kernel
theorem dX13_areBoxesOver_42 : decode cX13_areBoxesOver 42 = .ok (.aload_n 0, 1) := by decide +kernel
theorem dX13_areBoxesOver_43 : decode cX13_areBoxesOver 43 = .ok (.getfield 236, 3) := by decide +kernel
theorem dX13_areBoxesOver_46 : decode cX13_areBoxesOver 46 = .ok (.invokestatic 184, 3) := by decide +kernel
theorem dX13_areBoxesOver_49 : decode cX13_areBoxesOver 49 = .ok (.lcmp, 1) := by decide +kernel
theorem dX13_areBoxesOver_50 : decode cX13_areBoxesOver 50 = .ok (.ifCond .le 28, 3) := by decide +kernel
theorem dX13_areBoxesOver_53 : decode cX13_areBoxesOver 53 = .ok (.lload 7, 2) := by decide +kernel
theorem dX13_areBoxesOver_55 : decode cX13_areBoxesOver 55 = .ok (.aload_n 0, 1) := by decide +kernel
theorem dX13_areBoxesOver_56 : decode cX13_areBoxesOver 56 = .ok (.getfield 245, 3) := by decide +kernel
theorem dX13_areBoxesOver_59 : decode cX13_areBoxesOver 59 = .ok (.invokestatic 180, 3) := by decide +kernel
theorem dX13_areBoxesOver_62 : decode cX13_areBoxesOver 62 = .ok (.lload_n 3, 1) := by decide +kernel
theorem dX13_areBoxesOver_63 : decode cX13_areBoxesOver 63 = .ok (.aload_n 0, 1) := by decide +kernel
theorem dX13_areBoxesOver_64 : decode cX13_areBoxesOver 64 = .ok (.getfield 239, 3) := by decide +kernel
theorem dX13_areBoxesOver_67 : decode cX13_areBoxesOver 67 = .ok (.invokestatic 184, 3) := by decide +kernel
theorem dX13_areBoxesOver_70 : decode cX13_areBoxesOver 70 = .ok (.lcmp, 1) := by decide +kernel
theorem dX13_areBoxesOver_71 : decode cX13_areBoxesOver 71 = .ok (.ifCond .le 7, 3) := by decide +kernel
theorem dX13_areBoxesOver_74 : decode cX13_areBoxesOver 74 = .ok (.iconst 1, 1) := by decide +kernel
theorem dX13_areBoxesOver_75 : decode cX13_areBoxesOver 75 = .ok (.goto 4, 3) := by decide +kernel
theorem dX13_areBoxesOver_78 : decode cX13_areBoxesOver 78 = .ok (.iconst 0, 1) := by decide +kernel
theorem dX13_areBoxesOver_79 : decode cX13_areBoxesOver 79 = .ok (.ireturn, 1) := by decide +kernel

abbrev mX13_boxOf : sv_M := (cX13_boxOf, 3, yX13_boxOf, wsX13_boxOf, none, { frames := 2, cells := 0, slots := 0, locals := 60 }, [])
abbrev mX13_areBoxesOver : sv_M := (cX13_areBoxesOver, 9, yX13_areBoxesOver, wsX13_areBoxesOver, (some .boolean), { frames := 4, cells := 0, slots := 0, locals := 100 }, [])
set_option maxHeartbeats 4000000 in
set_option maxRecDepth 100000 in
theorem l_bx (G : sv_G) (z b nc np pl : Nat) (hb : sv_h) (fs0 : List Value) (hq0 : mfq_ b nc np pl fs0) (w n : Nat) (hw : w < 2) (hn : n ≤ 16) (hn1 : 1 ≤ n) (C : Nat → Int × Int) (hC : cbd C n) (fsd : Nat → Int32) (h43 : ab_I G hb (b + 249) 2 fsd) (hsd : fsd w = nI n) (gx gy : Nat → Int64) (h44 : ab_J G hb (b + 250) 34 gx) (h45 : ab_J G hb (b + 251) 34 gy) (hgx : ∀ k, k < n → gx (17 * w + k) = jN (C k).1) (hgy : ∀ k, k < n → gy (17 * w + k) = jN (C k).2) : ∀ (e k : Nat) (h : sv_h) (fs : List Value), k + e = n → 1 ≤ k → h (b + 220) = some (.inr (11, fs)) → fs.length = 71 → fsE [54, 55, 56, 57] fs0 fs → (fs[54]? = some (.long (jN (bxk C (k - 1) 0))) ∧ fs[55]? = some (.long (jN (bxk C (k - 1) 1))) ∧ fs[56]? = some (.long (jN (bxk C (k - 1) 2))) ∧ fs[57]? = some (.long (jN (bxk C (k - 1) 3)))) → (∀ a, a ≠ b + 220 → h a = hb a) → V G mX13_boxOf (sv_MQ G mX13_boxOf (fun v h1 z1 => v = none ∧ z1 = z ∧ (∃ fs1, h1 (b + 220) = some (.inr (11, fs1)) ∧ fs1.length = 71 ∧ fsE [54, 55, 56, 57] fs0 fs1 ∧ fs1[54]? = some (.long (jN (bxk C (n - 1) 0))) ∧ fs1[55]? = some (.long (jN (bxk C (n - 1) 1))) ∧ fs1[56]? = some (.long (jN (bxk C (n - 1) 2))) ∧ fs1[57]? = some (.long (jN (bxk C (n - 1) 3)))) ∧ ∀ a, a ≠ b + 220 → h1 a = hb a)) 44 [(2, .int (nI k)), (1, .int (nI w)), (0, .ref (b + 220))] [] h z 0 0 := by
  intro e
  induction e with
  | zero =>
    intro k h fs hke hk1 hm9 hl hE hF fr
    have hqf := hq0.to (S := [54, 55, 56, 57]) hl hE (by decide)
    have hlen : fs.length = 71 := hl
    have f_sides := hqf.f_sides
    have f_cx := hqf.f_cx
    have f_cy := hqf.f_cy
    obtain ⟨f_bx0, f_by0, f_bx1, f_by1⟩ := hF
    have w43 : ab_I G h (b + 249) 2 fsd := (fr _ (by omega)).trans h43
    have w44 : ab_J G h (b + 250) 34 gx := (fr _ (by omega)).trans h44
    have w45 : ab_J G h (b + 251) 34 gy := (fr _ (by omega)).trans h45
    refine v_iload_n dX13_boxOf_44 rfl 0 rfl ?_
    refine v_aload_n dX13_boxOf_45 rfl 2 rfl ?_
    refine v_getf 43 (ci := 11) (C := RX13) (T := TX13) (N := 71) rfl iwX13_boxOf_X13 (Nat.le_of_ble_eq_true rfl) (by decide +kernel) dX13_boxOf_46 (by repeat (first | with_reducible assumption | (with_reducible refine sv_us.trans ?_; exact rfl) | with_reducible refine (sv_un (by omega)).trans ?_)) (by repeat (first | with_reducible assumption | (with_reducible refine (sv_ls (by first | omega | (simp only [List.length_set]; omega))).trans ?_; exact rfl) | with_reducible refine (List.getElem?_set_ne (by decide)).trans ?_)) ?_
    refine v_iload_n dX13_boxOf_49 rfl 1 rfl ?_
    refine v_ialdS (v := nI n) dX13_boxOf_50 (by repeat (first | with_reducible assumption | (with_reducible refine sv_us.trans ?_; exact rfl) | with_reducible refine (sv_un (by omega)).trans ?_)) (vp_in_nI (by omega) (by omega)) (by rw [nI_clamp (by omega)]; exact hsd) ?_
    refine v_icmp_ge (tgt := 148) dX13_boxOf_51 (by decide) (fun c_51 => ?_) (fun c_51 => ?_)
    · exact v_ret rfl dX13_boxOf_148 (Nat.le_of_ble_eq_true rfl) (Nat.le_of_ble_eq_true rfl) (by
                have e9 : k = n := by omega
                rw [e9] at f_bx0 f_by0 f_bx1 f_by1
                exact ⟨rfl, rfl, ⟨fs, hm9, hl, hE, f_bx0, f_by0, f_bx1, f_by1⟩, fr⟩)
    · exact absurd (nI_le (show n ≤ k by omega) (by omega)) c_51
  | succ e ih =>
    intro k h fs hke hk1 hm9 hl hE hF fr
    have hqf := hq0.to (S := [54, 55, 56, 57]) hl hE (by decide)
    have hlen : fs.length = 71 := hl
    have f_sides := hqf.f_sides
    have f_cx := hqf.f_cx
    have f_cy := hqf.f_cy
    obtain ⟨f_bx0, f_by0, f_bx1, f_by1⟩ := hF
    have w43 : ab_I G h (b + 249) 2 fsd := (fr _ (by omega)).trans h43
    have w44 : ab_J G h (b + 250) 34 gx := (fr _ (by omega)).trans h44
    have w45 : ab_J G h (b + 251) 34 gy := (fr _ (by omega)).trans h45
    have ck := hC k (by omega)
    have b0 := bxk_b hC (show k - 1 < n by omega) 0
    have b1 := bxk_b hC (show k - 1 < n by omega) 1
    have b2 := bxk_b hC (show k - 1 < n by omega) 2
    have b3 := bxk_b hC (show k - 1 < n by omega) 3
    have e0 : bxk C k 0 = min (bxk C (k - 1) 0) (C k).1 := (by rw [show k = (k - 1) + 1 by omega]; rfl)
    have e1 : bxk C k 1 = min (bxk C (k - 1) 1) (C k).2 := (by rw [show k = (k - 1) + 1 by omega]; rfl)
    have e2 : bxk C k 2 = max (bxk C (k - 1) 2) (C k).1 := (by rw [show k = (k - 1) + 1 by omega]; rfl)
    have e3 : bxk C k 3 = max (bxk C (k - 1) 3) (C k).2 := (by rw [show k = (k - 1) + 1 by omega]; rfl)
    refine v_iload_n dX13_boxOf_44 rfl 0 rfl ?_
    refine v_aload_n dX13_boxOf_45 rfl 2 rfl ?_
    refine v_getf 43 (ci := 11) (C := RX13) (T := TX13) (N := 71) rfl iwX13_boxOf_X13 (Nat.le_of_ble_eq_true rfl) (by decide +kernel) dX13_boxOf_46 (by repeat (first | with_reducible assumption | (with_reducible refine sv_us.trans ?_; exact rfl) | with_reducible refine (sv_un (by omega)).trans ?_)) (by repeat (first | with_reducible assumption | (with_reducible refine (sv_ls (by first | omega | (simp only [List.length_set]; omega))).trans ?_; exact rfl) | with_reducible refine (List.getElem?_set_ne (by decide)).trans ?_)) ?_
    refine v_iload_n dX13_boxOf_49 rfl 1 rfl ?_
    refine v_ialdS (v := nI n) dX13_boxOf_50 (by repeat (first | with_reducible assumption | (with_reducible refine sv_us.trans ?_; exact rfl) | with_reducible refine (sv_un (by omega)).trans ?_)) (vp_in_nI (by omega) (by omega)) (by rw [nI_clamp (by omega)]; exact hsd) ?_
    refine v_icmp_ge (tgt := 148) dX13_boxOf_51 (by decide) (fun c_51 => ?_) (fun c_51 => ?_)
    · exact absurd c_51 (nI_ge (show k < n by omega) (by omega))
    · refine v_aload_n dX13_boxOf_54 rfl 2 rfl ?_
      refine v_aload_n dX13_boxOf_55 rfl 2 rfl ?_
      refine v_getf 54 (ci := 11) (C := RX13) (T := TX13) (N := 71) rfl iwX13_boxOf_X13 (Nat.le_of_ble_eq_true rfl) (by decide +kernel) dX13_boxOf_56 (by repeat (first | with_reducible assumption | (with_reducible refine sv_us.trans ?_; exact rfl) | with_reducible refine (sv_un (by omega)).trans ?_)) (by repeat (first | with_reducible assumption | (with_reducible refine (sv_ls (by first | omega | (simp only [List.length_set]; omega))).trans ?_; exact rfl) | with_reducible refine (List.getElem?_set_ne (by decide)).trans ?_)) ?_
      refine v_aload_n dX13_boxOf_59 rfl 2 rfl ?_
      refine v_getf 44 (ci := 11) (C := RX13) (T := TX13) (N := 71) rfl iwX13_boxOf_X13 (Nat.le_of_ble_eq_true rfl) (by decide +kernel) dX13_boxOf_60 (by repeat (first | with_reducible assumption | (with_reducible refine sv_us.trans ?_; exact rfl) | with_reducible refine (sv_un (by omega)).trans ?_)) (by repeat (first | with_reducible assumption | (with_reducible refine (sv_ls (by first | omega | (simp only [List.length_set]; omega))).trans ?_; exact rfl) | with_reducible refine (List.getElem?_set_ne (by decide)).trans ?_)) ?_
      refine v_bipush (v := 17) dX13_boxOf_63 (by decide) ?_
      refine v_iload_n dX13_boxOf_65 rfl 1 rfl ?_
      refine v_imul dX13_boxOf_66 ?_
      refine v_iload_n dX13_boxOf_67 rfl 0 rfl ?_
      refine v_iadd dX13_boxOf_68 ?_
      rw [sv_17]
      refine v_laldS (v := jN (C k).1) dX13_boxOf_69 (by repeat (first | with_reducible assumption | (with_reducible refine sv_us.trans ?_; exact rfl) | with_reducible refine (sv_un (by omega)).trans ?_)) (vp_in_nI (by omega) (by omega)) (by rw [nI_clamp (by omega)]; exact hgx k (by omega)) ?_
      refine v_callSq (M' := mX13_least) (n := 2) (As := [_, _]) ggX13_boxOf_X13_least (by decide +kernel) (by decide +kernel) (by decide +kernel) rfl (by decide +kernel) ⟨(Nat.le_of_ble_eq_true rfl), (Nat.le_of_ble_eq_true rfl)⟩ dX13_boxOf_70 rfl ⟨(Nat.le_of_ble_eq_true rfl), (Nat.le_of_ble_eq_true rfl)⟩ (Nat.le_of_ble_eq_true rfl) rfl (m_leastI G _ _ b0 ck.1) (fun v9 h9 y9 hq => v_pq hq ?_)
      refine v_putf 54 (fs' := _) (ci := 11) (C := RX13) (T := TX13) (N := 71) (ty := .long) rfl iwX13_boxOf_X13 tyX13 tyX13_ok nmX13 (Nat.le_of_ble_eq_true rfl) (by decide +kernel) rfl rfl dX13_boxOf_73 rfl rfl (by repeat (first | with_reducible assumption | (with_reducible refine sv_us.trans ?_; exact rfl) | with_reducible refine (sv_un (by omega)).trans ?_)) (by first | omega | (simp only [List.length_set]; omega)) rfl ?_
      refine v_aload_n dX13_boxOf_76 rfl 2 rfl ?_
      refine v_aload_n dX13_boxOf_77 rfl 2 rfl ?_
      refine v_getf 55 (ci := 11) (C := RX13) (T := TX13) (N := 71) rfl iwX13_boxOf_X13 (Nat.le_of_ble_eq_true rfl) (by decide +kernel) dX13_boxOf_78 (by repeat (first | with_reducible assumption | (with_reducible refine sv_us.trans ?_; exact rfl) | with_reducible refine (sv_un (by omega)).trans ?_)) (by repeat (first | with_reducible assumption | (with_reducible refine (sv_ls (by first | omega | (simp only [List.length_set]; omega))).trans ?_; exact rfl) | with_reducible refine (List.getElem?_set_ne (by decide)).trans ?_)) ?_
      refine v_aload_n dX13_boxOf_81 rfl 2 rfl ?_
      refine v_getf 45 (ci := 11) (C := RX13) (T := TX13) (N := 71) rfl iwX13_boxOf_X13 (Nat.le_of_ble_eq_true rfl) (by decide +kernel) dX13_boxOf_82 (by repeat (first | with_reducible assumption | (with_reducible refine sv_us.trans ?_; exact rfl) | with_reducible refine (sv_un (by omega)).trans ?_)) (by repeat (first | with_reducible assumption | (with_reducible refine (sv_ls (by first | omega | (simp only [List.length_set]; omega))).trans ?_; exact rfl) | with_reducible refine (List.getElem?_set_ne (by decide)).trans ?_)) ?_
      refine v_bipush (v := 17) dX13_boxOf_85 (by decide) ?_
      refine v_iload_n dX13_boxOf_87 rfl 1 rfl ?_
      refine v_imul dX13_boxOf_88 ?_
      refine v_iload_n dX13_boxOf_89 rfl 0 rfl ?_
      refine v_iadd dX13_boxOf_90 ?_
      rw [sv_17]
      refine v_laldS (v := jN (C k).2) dX13_boxOf_91 (by repeat (first | with_reducible assumption | (with_reducible refine sv_us.trans ?_; exact rfl) | with_reducible refine (sv_un (by omega)).trans ?_)) (vp_in_nI (by omega) (by omega)) (by rw [nI_clamp (by omega)]; exact hgy k (by omega)) ?_
      refine v_callSq (M' := mX13_least) (n := 2) (As := [_, _]) ggX13_boxOf_X13_least (by decide +kernel) (by decide +kernel) (by decide +kernel) rfl (by decide +kernel) ⟨(Nat.le_of_ble_eq_true rfl), (Nat.le_of_ble_eq_true rfl)⟩ dX13_boxOf_92 rfl ⟨(Nat.le_of_ble_eq_true rfl), (Nat.le_of_ble_eq_true rfl)⟩ (Nat.le_of_ble_eq_true rfl) rfl (m_leastI G _ _ b1 ck.2) (fun v9 h9 y9 hq => v_pq hq ?_)
      refine v_putf 55 (fs' := _) (ci := 11) (C := RX13) (T := TX13) (N := 71) (ty := .long) rfl iwX13_boxOf_X13 tyX13 tyX13_ok nmX13 (Nat.le_of_ble_eq_true rfl) (by decide +kernel) rfl rfl dX13_boxOf_95 rfl rfl (by repeat (first | with_reducible assumption | (with_reducible refine sv_us.trans ?_; exact rfl) | with_reducible refine (sv_un (by omega)).trans ?_)) (by first | omega | (simp only [List.length_set]; omega)) rfl ?_
      refine v_aload_n dX13_boxOf_98 rfl 2 rfl ?_
      refine v_aload_n dX13_boxOf_99 rfl 2 rfl ?_
      refine v_getf 56 (ci := 11) (C := RX13) (T := TX13) (N := 71) rfl iwX13_boxOf_X13 (Nat.le_of_ble_eq_true rfl) (by decide +kernel) dX13_boxOf_100 (by repeat (first | with_reducible assumption | (with_reducible refine sv_us.trans ?_; exact rfl) | with_reducible refine (sv_un (by omega)).trans ?_)) (by repeat (first | with_reducible assumption | (with_reducible refine (sv_ls (by first | omega | (simp only [List.length_set]; omega))).trans ?_; exact rfl) | with_reducible refine (List.getElem?_set_ne (by decide)).trans ?_)) ?_
      refine v_aload_n dX13_boxOf_103 rfl 2 rfl ?_
      refine v_getf 44 (ci := 11) (C := RX13) (T := TX13) (N := 71) rfl iwX13_boxOf_X13 (Nat.le_of_ble_eq_true rfl) (by decide +kernel) dX13_boxOf_104 (by repeat (first | with_reducible assumption | (with_reducible refine sv_us.trans ?_; exact rfl) | with_reducible refine (sv_un (by omega)).trans ?_)) (by repeat (first | with_reducible assumption | (with_reducible refine (sv_ls (by first | omega | (simp only [List.length_set]; omega))).trans ?_; exact rfl) | with_reducible refine (List.getElem?_set_ne (by decide)).trans ?_)) ?_
      refine v_bipush (v := 17) dX13_boxOf_107 (by decide) ?_
      refine v_iload_n dX13_boxOf_109 rfl 1 rfl ?_
      refine v_imul dX13_boxOf_110 ?_
      refine v_iload_n dX13_boxOf_111 rfl 0 rfl ?_
      refine v_iadd dX13_boxOf_112 ?_
      rw [sv_17]
      refine v_laldS (v := jN (C k).1) dX13_boxOf_113 (by repeat (first | with_reducible assumption | (with_reducible refine sv_us.trans ?_; exact rfl) | with_reducible refine (sv_un (by omega)).trans ?_)) (vp_in_nI (by omega) (by omega)) (by rw [nI_clamp (by omega)]; exact hgx k (by omega)) ?_
      refine v_callSq (M' := mX13_most) (n := 2) (As := [_, _]) ggX13_boxOf_X13_most (by decide +kernel) (by decide +kernel) (by decide +kernel) rfl (by decide +kernel) ⟨(Nat.le_of_ble_eq_true rfl), (Nat.le_of_ble_eq_true rfl)⟩ dX13_boxOf_114 rfl ⟨(Nat.le_of_ble_eq_true rfl), (Nat.le_of_ble_eq_true rfl)⟩ (Nat.le_of_ble_eq_true rfl) rfl (m_mostI G _ _ b2 ck.1) (fun v9 h9 y9 hq => v_pq hq ?_)
      refine v_putf 56 (fs' := _) (ci := 11) (C := RX13) (T := TX13) (N := 71) (ty := .long) rfl iwX13_boxOf_X13 tyX13 tyX13_ok nmX13 (Nat.le_of_ble_eq_true rfl) (by decide +kernel) rfl rfl dX13_boxOf_117 rfl rfl (by repeat (first | with_reducible assumption | (with_reducible refine sv_us.trans ?_; exact rfl) | with_reducible refine (sv_un (by omega)).trans ?_)) (by first | omega | (simp only [List.length_set]; omega)) rfl ?_
      refine v_aload_n dX13_boxOf_120 rfl 2 rfl ?_
      refine v_aload_n dX13_boxOf_121 rfl 2 rfl ?_
      refine v_getf 57 (ci := 11) (C := RX13) (T := TX13) (N := 71) rfl iwX13_boxOf_X13 (Nat.le_of_ble_eq_true rfl) (by decide +kernel) dX13_boxOf_122 (by repeat (first | with_reducible assumption | (with_reducible refine sv_us.trans ?_; exact rfl) | with_reducible refine (sv_un (by omega)).trans ?_)) (by repeat (first | with_reducible assumption | (with_reducible refine (sv_ls (by first | omega | (simp only [List.length_set]; omega))).trans ?_; exact rfl) | with_reducible refine (List.getElem?_set_ne (by decide)).trans ?_)) ?_
      refine v_aload_n dX13_boxOf_125 rfl 2 rfl ?_
      refine v_getf 45 (ci := 11) (C := RX13) (T := TX13) (N := 71) rfl iwX13_boxOf_X13 (Nat.le_of_ble_eq_true rfl) (by decide +kernel) dX13_boxOf_126 (by repeat (first | with_reducible assumption | (with_reducible refine sv_us.trans ?_; exact rfl) | with_reducible refine (sv_un (by omega)).trans ?_)) (by repeat (first | with_reducible assumption | (with_reducible refine (sv_ls (by first | omega | (simp only [List.length_set]; omega))).trans ?_; exact rfl) | with_reducible refine (List.getElem?_set_ne (by decide)).trans ?_)) ?_
      refine v_bipush (v := 17) dX13_boxOf_129 (by decide) ?_
      refine v_iload_n dX13_boxOf_131 rfl 1 rfl ?_
      refine v_imul dX13_boxOf_132 ?_
      refine v_iload_n dX13_boxOf_133 rfl 0 rfl ?_
      refine v_iadd dX13_boxOf_134 ?_
      rw [sv_17]
      refine v_laldS (v := jN (C k).2) dX13_boxOf_135 (by repeat (first | with_reducible assumption | (with_reducible refine sv_us.trans ?_; exact rfl) | with_reducible refine (sv_un (by omega)).trans ?_)) (vp_in_nI (by omega) (by omega)) (by rw [nI_clamp (by omega)]; exact hgy k (by omega)) ?_
      refine v_callSq (M' := mX13_most) (n := 2) (As := [_, _]) ggX13_boxOf_X13_most (by decide +kernel) (by decide +kernel) (by decide +kernel) rfl (by decide +kernel) ⟨(Nat.le_of_ble_eq_true rfl), (Nat.le_of_ble_eq_true rfl)⟩ dX13_boxOf_136 rfl ⟨(Nat.le_of_ble_eq_true rfl), (Nat.le_of_ble_eq_true rfl)⟩ (Nat.le_of_ble_eq_true rfl) rfl (m_mostI G _ _ b3 ck.2) (fun v9 h9 y9 hq => v_pq hq ?_)
      refine v_putf 57 (fs' := _) (ci := 11) (C := RX13) (T := TX13) (N := 71) (ty := .long) rfl iwX13_boxOf_X13 tyX13 tyX13_ok nmX13 (Nat.le_of_ble_eq_true rfl) (by decide +kernel) rfl rfl dX13_boxOf_139 rfl rfl (by repeat (first | with_reducible assumption | (with_reducible refine sv_us.trans ?_; exact rfl) | with_reducible refine (sv_un (by omega)).trans ?_)) (by first | omega | (simp only [List.length_set]; omega)) rfl ?_
      refine v_iinc (j := 0) (L' := [(2, _), (1, _), (0, _)]) (v := nI (k + 1)) dX13_boxOf_142 rfl (nI_1 _) (Nat.le_of_ble_eq_true rfl) rfl ?_
      refine v_goto (tgt := 44) dX13_boxOf_145 (by decide) ?_
      refine v_sub (L' := [(2, _), (1, _), (0, _)]) [0, 1, 2] rfl ?_
      refine ih (k + 1) _ _ (by omega) (by omega) sv_us (by rw [List.length_set, List.length_set, List.length_set, List.length_set]; exact hl) ((((hE.st (by decide)).st (by decide)).st (by decide)).st (by decide)) ?_ (fun a p => (sv_un p).trans ((sv_un p).trans ((sv_un p).trans ((sv_un p).trans (fr a p)))))
      rw [show k + 1 - 1 = k by omega, e0, e1, e2, e3]
      exact ⟨(List.getElem?_set_ne (by decide)).trans ((List.getElem?_set_ne (by decide)).trans ((List.getElem?_set_ne (by decide)).trans (sv_ls (by omega)))), (List.getElem?_set_ne (by decide)).trans ((List.getElem?_set_ne (by decide)).trans (sv_ls (by rw [List.length_set]; omega))), (List.getElem?_set_ne (by decide)).trans (sv_ls (by rw [List.length_set, List.length_set]; omega)), sv_ls (by rw [List.length_set, List.length_set, List.length_set]; omega)⟩

set_option maxHeartbeats 4000000 in
set_option maxRecDepth 100000 in
theorem m_boxOf (G : sv_G) (z b nc np pl : Nat) (hb : sv_h) (fs0 : List Value) (hq0 : mfq_ b nc np pl fs0) (w n : Nat) (hw : w < 2) (hn : n ≤ 16) (hn1 : 1 ≤ n) (C : Nat → Int × Int) (hC : cbd C n) (fsd : Nat → Int32) (h43 : ab_I G hb (b + 249) 2 fsd) (hsd : fsd w = nI n) (gx gy : Nat → Int64) (h44 : ab_J G hb (b + 250) 34 gx) (h45 : ab_J G hb (b + 251) 34 gy) (hgx : ∀ k, k < n → gx (17 * w + k) = jN (C k).1) (hgy : ∀ k, k < n → gy (17 * w + k) = jN (C k).2) (hm9 : hb (b + 220) = some (.inr (11, fs0))) : CT G mX13_boxOf [.ref (b + 220), .int (nI w)] hb z (fun v h1 z1 => v = none ∧ z1 = z ∧ (∃ fs1, h1 (b + 220) = some (.inr (11, fs1)) ∧ fs1.length = 71 ∧ fsE [54, 55, 56, 57] fs0 fs1 ∧ fs1[54]? = some (.long (jN (bxk C (n - 1) 0))) ∧ fs1[55]? = some (.long (jN (bxk C (n - 1) 1))) ∧ fs1[56]? = some (.long (jN (bxk C (n - 1) 2))) ∧ fs1[57]? = some (.long (jN (bxk C (n - 1) 3)))) ∧ ∀ a, a ≠ b + 220 → h1 a = hb a) := by
  refine CT.of (by decide +kernel) rfl rfl (Nat.le_of_ble_eq_true rfl) ?_
  have hlen : fs0.length = 71 := hq0.1
  have f_sides := hq0.f_sides
  have f_cx := hq0.f_cx
  have f_cy := hq0.f_cy
  refine v_aload_n dX13_boxOf_0 rfl 0 rfl ?_
  refine v_aload_n dX13_boxOf_1 rfl 0 rfl ?_
  refine v_getf 44 (ci := 11) (C := RX13) (T := TX13) (N := 71) rfl iwX13_boxOf_X13 (Nat.le_of_ble_eq_true rfl) (by decide +kernel) dX13_boxOf_2 (by repeat (first | with_reducible assumption | (with_reducible refine sv_us.trans ?_; exact rfl) | with_reducible refine (sv_un (by omega)).trans ?_)) (by repeat (first | with_reducible assumption | (with_reducible refine (sv_ls (by first | omega | (simp only [List.length_set]; omega))).trans ?_; exact rfl) | with_reducible refine (List.getElem?_set_ne (by decide)).trans ?_)) ?_
  refine v_bipush (v := 17) dX13_boxOf_5 (by decide) ?_
  refine v_iload_n dX13_boxOf_7 rfl 1 rfl ?_
  refine v_imul dX13_boxOf_8 ?_
  rw [sv_170]
  refine v_laldS (v := jN (C 0).1) dX13_boxOf_9 (by repeat (first | with_reducible assumption | (with_reducible refine sv_us.trans ?_; exact rfl) | with_reducible refine (sv_un (by omega)).trans ?_)) (vp_in_nI (by omega) (by omega)) (by rw [nI_clamp (by omega)]; exact hgx 0 (by omega)) ?_
  refine v_putf 54 (fs' := _) (ci := 11) (C := RX13) (T := TX13) (N := 71) (ty := .long) rfl iwX13_boxOf_X13 tyX13 tyX13_ok nmX13 (Nat.le_of_ble_eq_true rfl) (by decide +kernel) rfl rfl dX13_boxOf_10 rfl rfl (by repeat (first | with_reducible assumption | (with_reducible refine sv_us.trans ?_; exact rfl) | with_reducible refine (sv_un (by omega)).trans ?_)) (by first | omega | (simp only [List.length_set]; omega)) rfl ?_
  refine v_aload_n dX13_boxOf_13 rfl 0 rfl ?_
  refine v_aload_n dX13_boxOf_14 rfl 0 rfl ?_
  refine v_getf 45 (ci := 11) (C := RX13) (T := TX13) (N := 71) rfl iwX13_boxOf_X13 (Nat.le_of_ble_eq_true rfl) (by decide +kernel) dX13_boxOf_15 (by repeat (first | with_reducible assumption | (with_reducible refine sv_us.trans ?_; exact rfl) | with_reducible refine (sv_un (by omega)).trans ?_)) (by repeat (first | with_reducible assumption | (with_reducible refine (sv_ls (by first | omega | (simp only [List.length_set]; omega))).trans ?_; exact rfl) | with_reducible refine (List.getElem?_set_ne (by decide)).trans ?_)) ?_
  refine v_bipush (v := 17) dX13_boxOf_18 (by decide) ?_
  refine v_iload_n dX13_boxOf_20 rfl 1 rfl ?_
  refine v_imul dX13_boxOf_21 ?_
  rw [sv_170]
  refine v_laldS (v := jN (C 0).2) dX13_boxOf_22 (by repeat (first | with_reducible assumption | (with_reducible refine sv_us.trans ?_; exact rfl) | with_reducible refine (sv_un (by omega)).trans ?_)) (vp_in_nI (by omega) (by omega)) (by rw [nI_clamp (by omega)]; exact hgy 0 (by omega)) ?_
  refine v_putf 55 (fs' := _) (ci := 11) (C := RX13) (T := TX13) (N := 71) (ty := .long) rfl iwX13_boxOf_X13 tyX13 tyX13_ok nmX13 (Nat.le_of_ble_eq_true rfl) (by decide +kernel) rfl rfl dX13_boxOf_23 rfl rfl (by repeat (first | with_reducible assumption | (with_reducible refine sv_us.trans ?_; exact rfl) | with_reducible refine (sv_un (by omega)).trans ?_)) (by first | omega | (simp only [List.length_set]; omega)) rfl ?_
  refine v_aload_n dX13_boxOf_26 rfl 0 rfl ?_
  refine v_aload_n dX13_boxOf_27 rfl 0 rfl ?_
  refine v_getf 54 (ci := 11) (C := RX13) (T := TX13) (N := 71) rfl iwX13_boxOf_X13 (Nat.le_of_ble_eq_true rfl) (by decide +kernel) dX13_boxOf_28 (by repeat (first | with_reducible assumption | (with_reducible refine sv_us.trans ?_; exact rfl) | with_reducible refine (sv_un (by omega)).trans ?_)) (by repeat (first | with_reducible assumption | (with_reducible refine (sv_ls (by first | omega | (simp only [List.length_set]; omega))).trans ?_; exact rfl) | with_reducible refine (List.getElem?_set_ne (by decide)).trans ?_)) ?_
  refine v_putf 56 (fs' := _) (ci := 11) (C := RX13) (T := TX13) (N := 71) (ty := .long) rfl iwX13_boxOf_X13 tyX13 tyX13_ok nmX13 (Nat.le_of_ble_eq_true rfl) (by decide +kernel) rfl rfl dX13_boxOf_31 rfl rfl (by repeat (first | with_reducible assumption | (with_reducible refine sv_us.trans ?_; exact rfl) | with_reducible refine (sv_un (by omega)).trans ?_)) (by first | omega | (simp only [List.length_set]; omega)) rfl ?_
  refine v_aload_n dX13_boxOf_34 rfl 0 rfl ?_
  refine v_aload_n dX13_boxOf_35 rfl 0 rfl ?_
  refine v_getf 55 (ci := 11) (C := RX13) (T := TX13) (N := 71) rfl iwX13_boxOf_X13 (Nat.le_of_ble_eq_true rfl) (by decide +kernel) dX13_boxOf_36 (by repeat (first | with_reducible assumption | (with_reducible refine sv_us.trans ?_; exact rfl) | with_reducible refine (sv_un (by omega)).trans ?_)) (by repeat (first | with_reducible assumption | (with_reducible refine (sv_ls (by first | omega | (simp only [List.length_set]; omega))).trans ?_; exact rfl) | with_reducible refine (List.getElem?_set_ne (by decide)).trans ?_)) ?_
  refine v_putf 57 (fs' := _) (ci := 11) (C := RX13) (T := TX13) (N := 71) (ty := .long) rfl iwX13_boxOf_X13 tyX13 tyX13_ok nmX13 (Nat.le_of_ble_eq_true rfl) (by decide +kernel) rfl rfl dX13_boxOf_39 rfl rfl (by repeat (first | with_reducible assumption | (with_reducible refine sv_us.trans ?_; exact rfl) | with_reducible refine (sv_un (by omega)).trans ?_)) (by first | omega | (simp only [List.length_set]; omega)) rfl ?_
  refine v_iconst (v := 1) dX13_boxOf_42 (by decide) ?_
  refine v_istore_n (L' := [(2, _), (0, _), (1, _)]) dX13_boxOf_43 rfl (Nat.le_of_ble_eq_true rfl) rfl ?_
  refine v_sub (L' := [(2, _), (1, _), (0, _)]) [0, 2, 1] rfl ?_
  refine l_bx G _ b nc np pl hb fs0 hq0 w n hw hn hn1 C hC fsd h43 hsd gx gy h44 h45 hgx hgy (n - 1) 1 _ _ (by omega) (Nat.le_refl 1) sv_us (by rw [List.length_set, List.length_set, List.length_set, List.length_set]; exact hq0.1) ((((fsE.rf.st (by decide)).st (by decide)).st (by decide)).st (by decide)) ?_ (fun a p => (sv_un p).trans ((sv_un p).trans ((sv_un p).trans (sv_un p))))
  exact ⟨(List.getElem?_set_ne (by decide)).trans ((List.getElem?_set_ne (by decide)).trans ((List.getElem?_set_ne (by decide)).trans (sv_ls (by omega)))), (List.getElem?_set_ne (by decide)).trans ((List.getElem?_set_ne (by decide)).trans (sv_ls (by rw [List.length_set]; omega))), (List.getElem?_set_ne (by decide)).trans (sv_ls (by rw [List.length_set, List.length_set]; omega)), sv_ls (by rw [List.length_set, List.length_set, List.length_set]; omega)⟩

/-- both boxes have more than edges in common -/
abbrev bxV (C D : Nat → Int × Int) (n m : Nat) : Prop := max (bxk C (n - 1) 0) (bxk D (m - 1) 0) < min (bxk C (n - 1) 2) (bxk D (m - 1) 2) ∧ max (bxk C (n - 1) 1) (bxk D (m - 1) 1) < min (bxk C (n - 1) 3) (bxk D (m - 1) 3)
theorem m_boxOf0 (G : sv_G) (z b nc np pl : Nat) (hb : sv_h) (fs0 : List Value) (hq0 : mfq_ b nc np pl fs0) (n : Nat) (hn : n ≤ 16) (hn1 : 1 ≤ n) (C : Nat → Int × Int) (hC : cbd C n) (fsd : Nat → Int32) (h43 : ab_I G hb (b + 249) 2 fsd) (hsd : fsd 0 = nI n) (gx gy : Nat → Int64) (h44 : ab_J G hb (b + 250) 34 gx) (h45 : ab_J G hb (b + 251) 34 gy) (hgx : ∀ k, k < n → gx (17 * 0 + k) = jN (C k).1) (hgy : ∀ k, k < n → gy (17 * 0 + k) = jN (C k).2) (hm9 : hb (b + 220) = some (.inr (11, fs0))) : CT G mX13_boxOf [.ref (b + 220), .int 0] hb z (fun v h1 z1 => v = none ∧ z1 = z ∧ (∃ fs1, h1 (b + 220) = some (.inr (11, fs1)) ∧ fs1.length = 71 ∧ fsE [54, 55, 56, 57] fs0 fs1 ∧ fs1[54]? = some (.long (jN (bxk C (n - 1) 0))) ∧ fs1[55]? = some (.long (jN (bxk C (n - 1) 1))) ∧ fs1[56]? = some (.long (jN (bxk C (n - 1) 2))) ∧ fs1[57]? = some (.long (jN (bxk C (n - 1) 3)))) ∧ ∀ a, a ≠ b + 220 → h1 a = hb a) := m_boxOf G z b nc np pl hb fs0 hq0 0 n (by decide) hn hn1 C hC fsd h43 hsd gx gy h44 h45 hgx hgy hm9
theorem m_boxOf1 (G : sv_G) (z b nc np pl : Nat) (hb : sv_h) (fs0 : List Value) (hq0 : mfq_ b nc np pl fs0) (n : Nat) (hn : n ≤ 16) (hn1 : 1 ≤ n) (C : Nat → Int × Int) (hC : cbd C n) (fsd : Nat → Int32) (h43 : ab_I G hb (b + 249) 2 fsd) (hsd : fsd 1 = nI n) (gx gy : Nat → Int64) (h44 : ab_J G hb (b + 250) 34 gx) (h45 : ab_J G hb (b + 251) 34 gy) (hgx : ∀ k, k < n → gx (17 * 1 + k) = jN (C k).1) (hgy : ∀ k, k < n → gy (17 * 1 + k) = jN (C k).2) (hm9 : hb (b + 220) = some (.inr (11, fs0))) : CT G mX13_boxOf [.ref (b + 220), .int 1] hb z (fun v h1 z1 => v = none ∧ z1 = z ∧ (∃ fs1, h1 (b + 220) = some (.inr (11, fs1)) ∧ fs1.length = 71 ∧ fsE [54, 55, 56, 57] fs0 fs1 ∧ fs1[54]? = some (.long (jN (bxk C (n - 1) 0))) ∧ fs1[55]? = some (.long (jN (bxk C (n - 1) 1))) ∧ fs1[56]? = some (.long (jN (bxk C (n - 1) 2))) ∧ fs1[57]? = some (.long (jN (bxk C (n - 1) 3)))) ∧ ∀ a, a ≠ b + 220 → h1 a = hb a) := m_boxOf G z b nc np pl hb fs0 hq0 1 n (by decide) hn hn1 C hC fsd h43 hsd gx gy h44 h45 hgx hgy hm9
set_option maxHeartbeats 4000000 in
set_option maxRecDepth 100000 in
theorem m_boxesOver (G : sv_G) (z b nc np pl : Nat) (hb : sv_h) (fs0 : List Value) (hq0 : mfq_ b nc np pl fs0) (hm9 : hb (b + 220) = some (.inr (11, fs0))) (n m : Nat) (hn : n ≤ 16) (hn1 : 1 ≤ n) (hm : m ≤ 16) (hm1 : 1 ≤ m) (C D : Nat → Int × Int) (hC : cbd C n) (hD : cbd D m) (fsd : Nat → Int32) (h43 : ab_I G hb (b + 249) 2 fsd) (hs0 : fsd 0 = nI n) (hs1 : fsd 1 = nI m) (gx gy : Nat → Int64) (h44 : ab_J G hb (b + 250) 34 gx) (h45 : ab_J G hb (b + 251) 34 gy) (hx0 : ∀ k, k < n → gx (17 * 0 + k) = jN (C k).1 ∧ gy (17 * 0 + k) = jN (C k).2) (hx1 : ∀ k, k < m → gx (17 * 1 + k) = jN (D k).1 ∧ gy (17 * 1 + k) = jN (D k).2) : CT G mX13_areBoxesOver [.ref (b + 220)] hb z (fun v h1 z1 => v = some (.int (if bxV C D n m then 1 else 0)) ∧ z1 = z ∧ (∃ fs1, h1 (b + 220) = some (.inr (11, fs1)) ∧ fs1.length = 71 ∧ fsE [54, 55, 56, 57] fs0 fs1) ∧ ∀ a, a ≠ b + 220 → h1 a = hb a) := by
  refine CT.of (by decide +kernel) rfl rfl (Nat.le_of_ble_eq_true rfl) ?_
  have c0 := bxk_b hC (show n - 1 < n by omega) 0
  have c1 := bxk_b hC (show n - 1 < n by omega) 1
  have c2 := bxk_b hC (show n - 1 < n by omega) 2
  have c3 := bxk_b hC (show n - 1 < n by omega) 3
  have d0 := bxk_b hD (show m - 1 < m by omega) 0
  have d1 := bxk_b hD (show m - 1 < m by omega) 1
  have d2 := bxk_b hD (show m - 1 < m by omega) 2
  have d3 := bxk_b hD (show m - 1 < m by omega) 3
  refine v_aload_n dX13_areBoxesOver_0 rfl 0 rfl ?_
  refine v_iconst (v := 0) dX13_areBoxesOver_1 (by decide) ?_
  refine v_callVq (M' := mX13_boxOf) (n := 1) (As := [_]) (ci := 11) (r := (RX13, TX13, 71)) gX13_areBoxesOver_X13_boxOf rfl (by decide +kernel) ⟨(Nat.le_of_ble_eq_true rfl), (Nat.le_of_ble_eq_true rfl)⟩ rfl rfl dX13_areBoxesOver_2 rfl ⟨(Nat.le_of_ble_eq_true rfl), (Nat.le_of_ble_eq_true rfl)⟩ (Nat.le_of_ble_eq_true rfl) (by first | with_reducible assumption) rfl (m_boxOf0 G _ b nc np pl hb fs0 hq0 n hn hn1 C hC fsd h43 hs0 gx gy h44 h45 (fun k hk => (hx0 k hk).1) (fun k hk => (hx0 k hk).2) hm9) (fun v h1 z1 hq9 => ?_)
  obtain ⟨rfl, rfl, ⟨fs1, u1, u2, u3, f_bx0, f_by0, f_bx1, f_by1⟩, u6⟩ := hq9
  have hlen1 : fs1.length = 71 := u2
  refine v_aload_n dX13_areBoxesOver_5 rfl 0 rfl ?_
  refine v_getf 54 (ci := 11) (C := RX13) (T := TX13) (N := 71) rfl iwX13_areBoxesOver_X13 (Nat.le_of_ble_eq_true rfl) (by decide +kernel) dX13_areBoxesOver_6 (by first | with_reducible assumption) (by repeat (first | with_reducible assumption | (with_reducible refine (sv_ls (by first | omega | (simp only [List.length_set]; omega))).trans ?_; exact rfl) | with_reducible refine (List.getElem?_set_ne (by decide)).trans ?_)) ?_
  refine v_lstore_n (L' := [(1, _), (0, _)]) dX13_areBoxesOver_9 rfl (Nat.le_of_ble_eq_true rfl) rfl ?_
  refine v_aload_n dX13_areBoxesOver_10 rfl 1 rfl ?_
  refine v_getf 55 (ci := 11) (C := RX13) (T := TX13) (N := 71) rfl iwX13_areBoxesOver_X13 (Nat.le_of_ble_eq_true rfl) (by decide +kernel) dX13_areBoxesOver_11 (by first | with_reducible assumption) (by repeat (first | with_reducible assumption | (with_reducible refine (sv_ls (by first | omega | (simp only [List.length_set]; omega))).trans ?_; exact rfl) | with_reducible refine (List.getElem?_set_ne (by decide)).trans ?_)) ?_
  refine v_lstore_n (L' := [(3, _), (1, _), (0, _)]) dX13_areBoxesOver_14 rfl (Nat.le_of_ble_eq_true rfl) rfl ?_
  refine v_aload_n dX13_areBoxesOver_15 rfl 2 rfl ?_
  refine v_getf 56 (ci := 11) (C := RX13) (T := TX13) (N := 71) rfl iwX13_areBoxesOver_X13 (Nat.le_of_ble_eq_true rfl) (by decide +kernel) dX13_areBoxesOver_16 (by first | with_reducible assumption) (by repeat (first | with_reducible assumption | (with_reducible refine (sv_ls (by first | omega | (simp only [List.length_set]; omega))).trans ?_; exact rfl) | with_reducible refine (List.getElem?_set_ne (by decide)).trans ?_)) ?_
  refine v_lstore (L' := [(5, _), (3, _), (1, _), (0, _)]) dX13_areBoxesOver_19 (Nat.le_of_ble_eq_true rfl) rfl ?_
  refine v_aload_n dX13_areBoxesOver_21 rfl 3 rfl ?_
  refine v_getf 57 (ci := 11) (C := RX13) (T := TX13) (N := 71) rfl iwX13_areBoxesOver_X13 (Nat.le_of_ble_eq_true rfl) (by decide +kernel) dX13_areBoxesOver_22 (by first | with_reducible assumption) (by repeat (first | with_reducible assumption | (with_reducible refine (sv_ls (by first | omega | (simp only [List.length_set]; omega))).trans ?_; exact rfl) | with_reducible refine (List.getElem?_set_ne (by decide)).trans ?_)) ?_
  refine v_lstore (L' := [(7, _), (5, _), (3, _), (1, _), (0, _)]) dX13_areBoxesOver_25 (Nat.le_of_ble_eq_true rfl) rfl ?_
  refine v_aload_n dX13_areBoxesOver_27 rfl 4 rfl ?_
  refine v_iconst (v := 1) dX13_areBoxesOver_28 (by decide) ?_
  refine v_callVq (M' := mX13_boxOf) (n := 1) (As := [_]) (ci := 11) (r := (RX13, TX13, 71)) gX13_areBoxesOver_X13_boxOf rfl (by decide +kernel) ⟨(Nat.le_of_ble_eq_true rfl), (Nat.le_of_ble_eq_true rfl)⟩ rfl rfl dX13_areBoxesOver_29 rfl ⟨(Nat.le_of_ble_eq_true rfl), (Nat.le_of_ble_eq_true rfl)⟩ (Nat.le_of_ble_eq_true rfl) (by first | with_reducible assumption) rfl (m_boxOf1 G _ b nc np pl h1 fs1 (hq0.to u2 u3 (by decide)) m hm hm1 D hD fsd ((u6 _ (by omega)).trans h43) hs1 gx gy ((u6 _ (by omega)).trans h44) ((u6 _ (by omega)).trans h45) (fun k hk => (hx1 k hk).1) (fun k hk => (hx1 k hk).2) u1) (fun v h2 z2 hq9 => ?_)
  obtain ⟨rfl, rfl, ⟨fs2, v1, v2, v3, g_bx0, g_by0, g_bx1, g_by1⟩, v6⟩ := hq9
  have hlen2 : fs2.length = 71 := v2
  clear f_bx0 f_by0 f_bx1 f_by1
  refine v_lload dX13_areBoxesOver_32 1 rfl ?_
  refine v_aload_n dX13_areBoxesOver_34 rfl 4 rfl ?_
  refine v_getf 56 (ci := 11) (C := RX13) (T := TX13) (N := 71) rfl iwX13_areBoxesOver_X13 (Nat.le_of_ble_eq_true rfl) (by decide +kernel) dX13_areBoxesOver_35 (by first | with_reducible assumption) (by repeat (first | with_reducible assumption | (with_reducible refine (sv_ls (by first | omega | (simp only [List.length_set]; omega))).trans ?_; exact rfl) | with_reducible refine (List.getElem?_set_ne (by decide)).trans ?_)) ?_
  refine v_callSq (M' := mX13_least) (n := 2) (As := [_, _]) ggX13_areBoxesOver_X13_least (by decide +kernel) (by decide +kernel) (by decide +kernel) rfl (by decide +kernel) ⟨(Nat.le_of_ble_eq_true rfl), (Nat.le_of_ble_eq_true rfl)⟩ dX13_areBoxesOver_38 rfl ⟨(Nat.le_of_ble_eq_true rfl), (Nat.le_of_ble_eq_true rfl)⟩ (Nat.le_of_ble_eq_true rfl) rfl (m_leastI G _ _ c2 d2) (fun v9 h9 y9 hq => v_pq hq ?_)
  refine v_lload_n dX13_areBoxesOver_41 rfl 3 rfl ?_
  refine v_aload_n dX13_areBoxesOver_42 rfl 4 rfl ?_
  refine v_getf 54 (ci := 11) (C := RX13) (T := TX13) (N := 71) rfl iwX13_areBoxesOver_X13 (Nat.le_of_ble_eq_true rfl) (by decide +kernel) dX13_areBoxesOver_43 (by first | with_reducible assumption) (by repeat (first | with_reducible assumption | (with_reducible refine (sv_ls (by first | omega | (simp only [List.length_set]; omega))).trans ?_; exact rfl) | with_reducible refine (List.getElem?_set_ne (by decide)).trans ?_)) ?_
  refine v_callSq (M' := mX13_most) (n := 2) (As := [_, _]) ggX13_areBoxesOver_X13_most (by decide +kernel) (by decide +kernel) (by decide +kernel) rfl (by decide +kernel) ⟨(Nat.le_of_ble_eq_true rfl), (Nat.le_of_ble_eq_true rfl)⟩ dX13_areBoxesOver_46 rfl ⟨(Nat.le_of_ble_eq_true rfl), (Nat.le_of_ble_eq_true rfl)⟩ (Nat.le_of_ble_eq_true rfl) rfl (m_mostI G _ _ c0 d0) (fun v9 h9 y9 hq => v_pq hq ?_)
  refine v_lcmp_le (tgt := 78) dX13_areBoxesOver_49 dX13_areBoxesOver_50 (by decide) (fun c_50 => ?_) (fun c_50 => ?_)
  · refine v_iconst (v := 0) dX13_areBoxesOver_78 (by decide) ?_
    exact v_iret rfl dX13_areBoxesOver_79 (Nat.le_of_ble_eq_true rfl) (Nat.le_of_ble_eq_true rfl) rfl (by
          have cv0 : (jN (min (bxk C (n - 1) 2) (bxk D (m - 1) 2)) ≤ jN (max (bxk C (n - 1) 0) (bxk D (m - 1) 0))) ↔ ¬ max (bxk C (n - 1) 0) (bxk D (m - 1) 0) < min (bxk C (n - 1) 2) (bxk D (m - 1) 2) := (by rw [jN_le (by omega) (by omega) (by omega) (by omega)]; exact Int.not_lt.symm)
          have cv1 : (jN (min (bxk C (n - 1) 3) (bxk D (m - 1) 3)) ≤ jN (max (bxk C (n - 1) 1) (bxk D (m - 1) 1))) ↔ ¬ max (bxk C (n - 1) 1) (bxk D (m - 1) 1) < min (bxk C (n - 1) 3) (bxk D (m - 1) 3) := (by rw [jN_le (by omega) (by omega) (by omega) (by omega)]; exact Int.not_lt.symm)
          refine ⟨?_, rfl, ⟨fs2, v1, v2, u3.tr v3⟩, fun a p => (v6 a p).trans (u6 a p)⟩
          by_cases e9 : bxV C D n m
          · rw [if_pos e9]
            first
              | done
              | rfl
              | exact absurd e9.2 (cv1.mp c_71)
              | exact absurd e9.1 (cv0.mp c_50)
          · rw [if_neg e9]
            first
              | done
              | rfl
              | exact absurd ⟨Decidable.of_not_not (mt cv0.mpr c_50), Decidable.of_not_not (mt cv1.mpr c_71)⟩ e9)
  · refine v_lload dX13_areBoxesOver_53 0 rfl ?_
    refine v_aload_n dX13_areBoxesOver_55 rfl 4 rfl ?_
    refine v_getf 57 (ci := 11) (C := RX13) (T := TX13) (N := 71) rfl iwX13_areBoxesOver_X13 (Nat.le_of_ble_eq_true rfl) (by decide +kernel) dX13_areBoxesOver_56 (by first | with_reducible assumption) (by repeat (first | with_reducible assumption | (with_reducible refine (sv_ls (by first | omega | (simp only [List.length_set]; omega))).trans ?_; exact rfl) | with_reducible refine (List.getElem?_set_ne (by decide)).trans ?_)) ?_
    refine v_callSq (M' := mX13_least) (n := 2) (As := [_, _]) ggX13_areBoxesOver_X13_least (by decide +kernel) (by decide +kernel) (by decide +kernel) rfl (by decide +kernel) ⟨(Nat.le_of_ble_eq_true rfl), (Nat.le_of_ble_eq_true rfl)⟩ dX13_areBoxesOver_59 rfl ⟨(Nat.le_of_ble_eq_true rfl), (Nat.le_of_ble_eq_true rfl)⟩ (Nat.le_of_ble_eq_true rfl) rfl (m_leastI G _ _ c3 d3) (fun v9 h9 y9 hq => v_pq hq ?_)
    refine v_lload_n dX13_areBoxesOver_62 rfl 2 rfl ?_
    refine v_aload_n dX13_areBoxesOver_63 rfl 4 rfl ?_
    refine v_getf 55 (ci := 11) (C := RX13) (T := TX13) (N := 71) rfl iwX13_areBoxesOver_X13 (Nat.le_of_ble_eq_true rfl) (by decide +kernel) dX13_areBoxesOver_64 (by first | with_reducible assumption) (by repeat (first | with_reducible assumption | (with_reducible refine (sv_ls (by first | omega | (simp only [List.length_set]; omega))).trans ?_; exact rfl) | with_reducible refine (List.getElem?_set_ne (by decide)).trans ?_)) ?_
    refine v_callSq (M' := mX13_most) (n := 2) (As := [_, _]) ggX13_areBoxesOver_X13_most (by decide +kernel) (by decide +kernel) (by decide +kernel) rfl (by decide +kernel) ⟨(Nat.le_of_ble_eq_true rfl), (Nat.le_of_ble_eq_true rfl)⟩ dX13_areBoxesOver_67 rfl ⟨(Nat.le_of_ble_eq_true rfl), (Nat.le_of_ble_eq_true rfl)⟩ (Nat.le_of_ble_eq_true rfl) rfl (m_mostI G _ _ c1 d1) (fun v9 h9 y9 hq => v_pq hq ?_)
    refine v_lcmp_le (tgt := 78) dX13_areBoxesOver_70 dX13_areBoxesOver_71 (by decide) (fun c_71 => ?_) (fun c_71 => ?_)
    · refine v_iconst (v := 0) dX13_areBoxesOver_78 (by decide) ?_
      exact v_iret rfl dX13_areBoxesOver_79 (Nat.le_of_ble_eq_true rfl) (Nat.le_of_ble_eq_true rfl) rfl (by
            have cv0 : (jN (min (bxk C (n - 1) 2) (bxk D (m - 1) 2)) ≤ jN (max (bxk C (n - 1) 0) (bxk D (m - 1) 0))) ↔ ¬ max (bxk C (n - 1) 0) (bxk D (m - 1) 0) < min (bxk C (n - 1) 2) (bxk D (m - 1) 2) := (by rw [jN_le (by omega) (by omega) (by omega) (by omega)]; exact Int.not_lt.symm)
            have cv1 : (jN (min (bxk C (n - 1) 3) (bxk D (m - 1) 3)) ≤ jN (max (bxk C (n - 1) 1) (bxk D (m - 1) 1))) ↔ ¬ max (bxk C (n - 1) 1) (bxk D (m - 1) 1) < min (bxk C (n - 1) 3) (bxk D (m - 1) 3) := (by rw [jN_le (by omega) (by omega) (by omega) (by omega)]; exact Int.not_lt.symm)
            refine ⟨?_, rfl, ⟨fs2, v1, v2, u3.tr v3⟩, fun a p => (v6 a p).trans (u6 a p)⟩
            by_cases e9 : bxV C D n m
            · rw [if_pos e9]
              first
                | done
                | rfl
                | exact absurd e9.2 (cv1.mp c_71)
                | exact absurd e9.1 (cv0.mp c_50)
            · rw [if_neg e9]
              first
                | done
                | rfl
                | exact absurd ⟨Decidable.of_not_not (mt cv0.mpr c_50), Decidable.of_not_not (mt cv1.mpr c_71)⟩ e9)
    · refine v_iconst (v := 1) dX13_areBoxesOver_74 (by decide) ?_
      refine v_goto (tgt := 79) dX13_areBoxesOver_75 (by decide) ?_
      exact v_iret rfl dX13_areBoxesOver_79 (Nat.le_of_ble_eq_true rfl) (Nat.le_of_ble_eq_true rfl) rfl (by
            have cv0 : (jN (min (bxk C (n - 1) 2) (bxk D (m - 1) 2)) ≤ jN (max (bxk C (n - 1) 0) (bxk D (m - 1) 0))) ↔ ¬ max (bxk C (n - 1) 0) (bxk D (m - 1) 0) < min (bxk C (n - 1) 2) (bxk D (m - 1) 2) := (by rw [jN_le (by omega) (by omega) (by omega) (by omega)]; exact Int.not_lt.symm)
            have cv1 : (jN (min (bxk C (n - 1) 3) (bxk D (m - 1) 3)) ≤ jN (max (bxk C (n - 1) 1) (bxk D (m - 1) 1))) ↔ ¬ max (bxk C (n - 1) 1) (bxk D (m - 1) 1) < min (bxk C (n - 1) 3) (bxk D (m - 1) 3) := (by rw [jN_le (by omega) (by omega) (by omega) (by omega)]; exact Int.not_lt.symm)
            refine ⟨?_, rfl, ⟨fs2, v1, v2, u3.tr v3⟩, fun a p => (v6 a p).trans (u6 a p)⟩
            by_cases e9 : bxV C D n m
            · rw [if_pos e9]
              first
                | done
                | rfl
                | exact absurd e9.2 (cv1.mp c_71)
                | exact absurd e9.1 (cv0.mp c_50)
            · rw [if_neg e9]
              first
                | done
                | rfl
                | exact absurd ⟨Decidable.of_not_not (mt cv0.mpr c_50), Decidable.of_not_not (mt cv1.mpr c_71)⟩ e9)

