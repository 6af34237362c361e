theorem iwX6_takeLayers_X6 : ∀ w ∈ wsX60, w ∈ wsX6_takeLayers := by decide +kernel
theorem iwX6_takeLayers_X7 : ∀ w ∈ wsX70, w ∈ wsX6_takeLayers := by decide +kernel
theorem iwX6_takeCondition_X7 : ∀ w ∈ wsX70, w ∈ wsX6_takeCondition := by decide +kernel
theorem iwX6_takeConditions_X6 : ∀ w ∈ wsX60, w ∈ wsX6_takeConditions := by decide +kernel
set_option maxRecDepth 20000 in
theorem ggX6_takeLayers_X6_takeNumber : GoodIn wsX6_takeLayers wsX6_takeNumber := goodIn_r _ [10, 11, 12, 13, 14, 15, 9, 16, 17, 18, 19, 20, 21, 22, 23, 24, 25, 26, 27, 28, 29, 30, 31, 32, 33, 34, 35, 36, 37, 38, 47, 48] (by decide +kernel) (by decide +kernel)
set_option maxRecDepth 20000 in
theorem gX6_takeLayers_X6_takeNumber : GoodIn wsX6_takeLayers (wsV RX6 107 RX6 yX6_takeNumber wsX6_takeNumber) := goodIn_app (goodIn_of _ (by decide +kernel)) ggX6_takeLayers_X6_takeNumber
theorem dX6_takeLayers_0 : decode cX6_takeLayers 0 = .ok (.aload_n 1, 1) := by decide +kernel
theorem dX6_takeLayers_1 : decode cX6_takeLayers 1 = .ok (.aload_n 0, 1) := by decide +kernel
theorem dX6_takeLayers_2 : decode cX6_takeLayers 2 = .ok (.aload_n 0, 1) := by decide +kernel
theorem dX6_takeLayers_3 : decode cX6_takeLayers 3 = .ok (.getfield 15, 3) := by decide +kernel
theorem dX6_takeLayers_6 : decode cX6_takeLayers 6 = .ok (.invokevirtual 107, 3) := by decide +kernel
theorem dX6_takeLayers_9 : decode cX6_takeLayers 9 = .ok (.putfield 111, 3) := by decide +kernel
theorem dX6_takeLayers_12 : decode cX6_takeLayers 12 = .ok (.aload_n 1, 1) := by decide +kernel
theorem dX6_takeLayers_13 : decode cX6_takeLayers 13 = .ok (.getfield 111, 3) := by decide +kernel
theorem dX6_takeLayers_16 : decode cX6_takeLayers 16 = .ok (.iconst (-1), 1) := by decide +kernel
theorem dX6_takeLayers_17 : decode cX6_takeLayers 17 = .ok (.if_icmp .ne 5, 3) := by decide +kernel
theorem dX6_takeLayers_20 : decode cX6_takeLayers 20 = .ok (.iconst 0, 1) := by decide +kernel
theorem dX6_takeLayers_21 : decode cX6_takeLayers 21 = .ok (.ireturn, 1) := by decide +kernel
theorem dX6_takeLayers_22 : decode cX6_takeLayers 22 = .ok (.aload_n 1, 1) := by decide +kernel
theorem dX6_takeLayers_23 : decode cX6_takeLayers 23 = .ok (.aload_n 1, 1) := by decide +kernel
theorem dX6_takeLayers_24 : decode cX6_takeLayers 24 = .ok (.getfield 84, 3) := by decide +kernel
theorem dX6_takeLayers_27 : decode cX6_takeLayers 27 = .ok (.getfield 114, 3) := by decide +kernel
theorem dX6_takeLayers_30 : decode cX6_takeLayers 30 = .ok (.iconst 1, 1) := by decide +kernel
theorem dX6_takeLayers_31 : decode cX6_takeLayers 31 = .ok (.if_icmp .ne 10, 3) := by decide +kernel
theorem dX6_takeLayers_34 : decode cX6_takeLayers 34 = .ok (.aload_n 1, 1) := by decide +kernel
theorem dX6_takeLayers_35 : decode cX6_takeLayers 35 = .ok (.getfield 111, 3) := by decide +kernel
theorem dX6_takeLayers_38 : decode cX6_takeLayers 38 = .ok (.goto 11, 3) := by decide +kernel
theorem dX6_takeLayers_41 : decode cX6_takeLayers 41 = .ok (.aload_n 0, 1) := by decide +kernel
theorem dX6_takeLayers_42 : decode cX6_takeLayers 42 = .ok (.aload_n 0, 1) := by decide +kernel
theorem dX6_takeLayers_43 : decode cX6_takeLayers 43 = .ok (.getfield 15, 3) := by decide +kernel
theorem dX6_takeLayers_46 : decode cX6_takeLayers 46 = .ok (.invokevirtual 107, 3) := by decide +kernel
theorem dX6_takeLayers_49 : decode cX6_takeLayers 49 = .ok (.putfield 115, 3) := by decide +kernel
theorem dX6_takeLayers_52 : decode cX6_takeLayers 52 = .ok (.aload_n 1, 1) := by decide +kernel
theorem dX6_takeLayers_53 : decode cX6_takeLayers 53 = .ok (.getfield 115, 3) := by decide +kernel
theorem dX6_takeLayers_56 : decode cX6_takeLayers 56 = .ok (.iconst (-1), 1) := by decide +kernel
theorem dX6_takeLayers_57 : decode cX6_takeLayers 57 = .ok (.if_icmp .eq 7, 3) := by decide +kernel
theorem dX6_takeLayers_60 : decode cX6_takeLayers 60 = .ok (.iconst 1, 1) := by decide +kernel
theorem dX6_takeLayers_61 : decode cX6_takeLayers 61 = .ok (.goto 4, 3) := by decide +kernel
theorem dX6_takeLayers_64 : decode cX6_takeLayers 64 = .ok (.iconst 0, 1) := by decide +kernel
theorem dX6_takeLayers_65 : decode cX6_takeLayers 65 = .ok (.ireturn, 1) := by decide +kernel
set_option maxRecDepth 20000 in
theorem ggX6_takeConditions_X6_takeCondition : GoodIn wsX6_takeConditions wsX6_takeCondition := goodIn_r _ [6, 7, 8, 9, 10, 11, 12, 13, 14, 15, 16, 17, 5, 18, 1, 19, 20, 21, 22, 23, 24, 25, 26, 27, 28, 29, 30, 31, 32, 33, 34, 35, 36, 37, 38, 39, 40, 41, 42, 43, 44, 45, 46, 47, 48, 49, 50, 51, 52, 53, 54, 55, 56, 57, 58, 59, 60, 61, 62, 63, 64, 65, 66, 67, 68, 69, 70, 71, 72, 73, 74, 75, 76, 77, 78, 79, 80, 81, 82, 83, 84, 85, 86, 87, 88, 89, 103, 104, 105, 106, 107, 108, 109, 110, 94, 95, 96, 97, 98, 99, 100, 101, 102, 111, 112] (by decide +kernel) (by decide +kernel)
set_option maxRecDepth 20000 in
theorem gX6_takeConditions_X6_takeCondition : GoodIn wsX6_takeConditions (wsV RX6 122 RX6 yX6_takeCondition wsX6_takeCondition) := goodIn_app (goodIn_of _ (by decide +kernel)) ggX6_takeConditions_X6_takeCondition
set_option maxRecDepth 20000 in
theorem ggX6_takeConditions_X6_takeSign : GoodIn wsX6_takeConditions wsX6_takeSign := goodIn_r _ [93, 1, 78, 72, 73, 74, 5, 75, 76, 19, 21, 77, 22, 20, 79, 80, 81, 82, 83, 84, 85, 94, 95, 96, 97, 98, 99, 100, 101, 102, 111, 112] (by decide +kernel) (by decide +kernel)
set_option maxRecDepth 20000 in
theorem gX6_takeConditions_X6_takeSign : GoodIn wsX6_takeConditions (wsV RX6 45 RX6 yX6_takeSign wsX6_takeSign) := goodIn_app (goodIn_of _ (by decide +kernel)) ggX6_takeConditions_X6_takeSign
theorem dX6_takeConditions_0 : decode cX6_takeConditions 0 = .ok (.iconst 0, 1) := by decide +kernel
theorem dX6_takeConditions_1 : decode cX6_takeConditions 1 = .ok (.istore_n 2, 1) := by decide +kernel
theorem dX6_takeConditions_2 : decode cX6_takeConditions 2 = .ok (.iload_n 2, 1) := by decide +kernel
theorem dX6_takeConditions_3 : decode cX6_takeConditions 3 = .ok (.iconst 3, 1) := by decide +kernel
theorem dX6_takeConditions_4 : decode cX6_takeConditions 4 = .ok (.if_icmp .ge 27, 3) := by decide +kernel
theorem dX6_takeConditions_7 : decode cX6_takeConditions 7 = .ok (.aload_n 0, 1) := by decide +kernel
theorem dX6_takeConditions_8 : decode cX6_takeConditions 8 = .ok (.getfield 61, 3) := by decide +kernel
theorem dX6_takeConditions_11 : decode cX6_takeConditions 11 = .ok (.iconst 2, 1) := by decide +kernel
theorem dX6_takeConditions_12 : decode cX6_takeConditions 12 = .ok (.if_icmp .ne 19, 3) := by decide +kernel
theorem dX6_takeConditions_15 : decode cX6_takeConditions 15 = .ok (.aload_n 0, 1) := by decide +kernel
theorem dX6_takeConditions_16 : decode cX6_takeConditions 16 = .ok (.aload_n 1, 1) := by decide +kernel
theorem dX6_takeConditions_17 : decode cX6_takeConditions 17 = .ok (.invokevirtual 122, 3) := by decide +kernel
theorem dX6_takeConditions_20 : decode cX6_takeConditions 20 = .ok (.ifCond .ne 5, 3) := by decide +kernel
theorem dX6_takeConditions_23 : decode cX6_takeConditions 23 = .ok (.iconst 0, 1) := by decide +kernel
theorem dX6_takeConditions_24 : decode cX6_takeConditions 24 = .ok (.ireturn, 1) := by decide +kernel
theorem dX6_takeConditions_25 : decode cX6_takeConditions 25 = .ok (.iinc 2 1, 3) := by decide +kernel
theorem dX6_takeConditions_28 : decode cX6_takeConditions 28 = .ok (.goto (-26), 3) := by decide +kernel
theorem dX6_takeConditions_31 : decode cX6_takeConditions 31 = .ok (.aload_n 0, 1) := by decide +kernel
theorem dX6_takeConditions_32 : decode cX6_takeConditions 32 = .ok (.bipush 59, 2) := by decide +kernel
theorem dX6_takeConditions_34 : decode cX6_takeConditions 34 = .ok (.invokevirtual 45, 3) := by decide +kernel
theorem dX6_takeConditions_37 : decode cX6_takeConditions 37 = .ok (.ireturn, 1) := by decide +kernel
set_option maxRecDepth 20000 in
theorem ggX6_takeCondition_X6_takeWord : GoodIn wsX6_takeCondition wsX6_takeWord := goodIn_r _ [13, 14, 15, 16, 17, 18, 19, 20, 21, 22, 23, 24, 25, 26, 27, 28, 29, 30, 31, 32, 33, 34, 35, 36, 37, 38, 39, 40, 41, 42, 43, 44, 45, 46, 47, 48, 49, 50, 51, 52, 53, 54, 55, 56, 57, 58, 59, 60, 61, 62, 63, 64, 65, 66, 67, 68, 69, 70, 12, 71, 72, 73, 74, 75, 76, 77, 78, 79, 80, 81, 94, 95, 96, 97, 98, 99, 100, 101, 102, 103, 104] (by decide +kernel) (by decide +kernel)
set_option maxRecDepth 20000 in
theorem gX6_takeCondition_X6_takeWord : GoodIn wsX6_takeCondition (wsV RX6 80 RX6 yX6_takeWord wsX6_takeWord) := goodIn_app (goodIn_of _ (by decide +kernel)) ggX6_takeCondition_X6_takeWord
set_option maxRecDepth 20000 in
theorem ggX6_takeCondition_X6_takeNumber : GoodIn wsX6_takeCondition wsX6_takeNumber := goodIn_r _ [85, 14, 74, 68, 69, 70, 12, 71, 72, 15, 17, 73, 18, 16, 75, 76, 77, 78, 79, 80, 81, 94, 95, 96, 97, 98, 99, 100, 101, 102, 103, 104] (by decide +kernel) (by decide +kernel)
set_option maxRecDepth 20000 in
theorem gX6_takeCondition_X6_takeNumber : GoodIn wsX6_takeCondition (wsV RX6 107 RX6 yX6_takeNumber wsX6_takeNumber) := goodIn_app (goodIn_of _ (by decide +kernel)) ggX6_takeCondition_X6_takeNumber
theorem dX6_takeCondition_0 : decode cX6_takeCondition 0 = .ok (.aload_n 1, 1) := by decide +kernel
theorem dX6_takeCondition_1 : decode cX6_takeCondition 1 = .ok (.getfield 84, 3) := by decide +kernel
theorem dX6_takeCondition_4 : decode cX6_takeCondition 4 = .ok (.getfield 125, 3) := by decide +kernel
theorem dX6_takeCondition_7 : decode cX6_takeCondition 7 = .ok (.ifCond .eq 44, 3) := by decide +kernel
theorem dX6_takeCondition_10 : decode cX6_takeCondition 10 = .ok (.aload_n 1, 1) := by decide +kernel
theorem dX6_takeCondition_11 : decode cX6_takeCondition 11 = .ok (.getfield 129, 3) := by decide +kernel
theorem dX6_takeCondition_14 : decode cX6_takeCondition 14 = .ok (.iconst (-1), 1) := by decide +kernel
theorem dX6_takeCondition_15 : decode cX6_takeCondition 15 = .ok (.if_icmp .ne 36, 3) := by decide +kernel
theorem dX6_takeCondition_18 : decode cX6_takeCondition 18 = .ok (.aload_n 0, 1) := by decide +kernel
theorem dX6_takeCondition_19 : decode cX6_takeCondition 19 = .ok (.ldc 132, 2) := by decide +kernel
theorem dX6_takeCondition_21 : decode cX6_takeCondition 21 = .ok (.invokevirtual 80, 3) := by decide +kernel
theorem dX6_takeCondition_24 : decode cX6_takeCondition 24 = .ok (.ifCond .eq 27, 3) := by decide +kernel
theorem dX6_takeCondition_27 : decode cX6_takeCondition 27 = .ok (.aload_n 1, 1) := by decide +kernel
theorem dX6_takeCondition_28 : decode cX6_takeCondition 28 = .ok (.aload_n 0, 1) := by decide +kernel
theorem dX6_takeCondition_29 : decode cX6_takeCondition 29 = .ok (.ldc 118, 2) := by decide +kernel
theorem dX6_takeCondition_31 : decode cX6_takeCondition 31 = .ok (.invokevirtual 107, 3) := by decide +kernel
theorem dX6_takeCondition_34 : decode cX6_takeCondition 34 = .ok (.putfield 129, 3) := by decide +kernel
theorem dX6_takeCondition_37 : decode cX6_takeCondition 37 = .ok (.aload_n 1, 1) := by decide +kernel
theorem dX6_takeCondition_38 : decode cX6_takeCondition 38 = .ok (.getfield 129, 3) := by decide +kernel
theorem dX6_takeCondition_41 : decode cX6_takeCondition 41 = .ok (.iconst (-1), 1) := by decide +kernel
theorem dX6_takeCondition_42 : decode cX6_takeCondition 42 = .ok (.if_icmp .eq 7, 3) := by decide +kernel
theorem dX6_takeCondition_45 : decode cX6_takeCondition 45 = .ok (.iconst 1, 1) := by decide +kernel
theorem dX6_takeCondition_46 : decode cX6_takeCondition 46 = .ok (.goto 4, 3) := by decide +kernel
theorem dX6_takeCondition_49 : decode cX6_takeCondition 49 = .ok (.iconst 0, 1) := by decide +kernel
theorem dX6_takeCondition_50 : decode cX6_takeCondition 50 = .ok (.ireturn, 1) := by decide +kernel
theorem dX6_takeCondition_51 : decode cX6_takeCondition 51 = .ok (.aload_n 1, 1) := by decide +kernel
theorem dX6_takeCondition_52 : decode cX6_takeCondition 52 = .ok (.getfield 84, 3) := by decide +kernel
theorem dX6_takeCondition_55 : decode cX6_takeCondition 55 = .ok (.getfield 134, 3) := by decide +kernel
theorem dX6_takeCondition_58 : decode cX6_takeCondition 58 = .ok (.ifCond .eq 44, 3) := by decide +kernel
theorem dX6_takeCondition_61 : decode cX6_takeCondition 61 = .ok (.aload_n 1, 1) := by decide +kernel
theorem dX6_takeCondition_62 : decode cX6_takeCondition 62 = .ok (.getfield 137, 3) := by decide +kernel
theorem dX6_takeCondition_65 : decode cX6_takeCondition 65 = .ok (.iconst (-1), 1) := by decide +kernel
theorem dX6_takeCondition_66 : decode cX6_takeCondition 66 = .ok (.if_icmp .ne 36, 3) := by decide +kernel
theorem dX6_takeCondition_69 : decode cX6_takeCondition 69 = .ok (.aload_n 0, 1) := by decide +kernel
theorem dX6_takeCondition_70 : decode cX6_takeCondition 70 = .ok (.ldc 140, 2) := by decide +kernel
theorem dX6_takeCondition_72 : decode cX6_takeCondition 72 = .ok (.invokevirtual 80, 3) := by decide +kernel
theorem dX6_takeCondition_75 : decode cX6_takeCondition 75 = .ok (.ifCond .eq 27, 3) := by decide +kernel
theorem dX6_takeCondition_78 : decode cX6_takeCondition 78 = .ok (.aload_n 1, 1) := by decide +kernel
theorem dX6_takeCondition_79 : decode cX6_takeCondition 79 = .ok (.aload_n 0, 1) := by decide +kernel
theorem dX6_takeCondition_80 : decode cX6_takeCondition 80 = .ok (.ldc 118, 2) := by decide +kernel
theorem dX6_takeCondition_82 : decode cX6_takeCondition 82 = .ok (.invokevirtual 107, 3) := by decide +kernel
theorem dX6_takeCondition_85 : decode cX6_takeCondition 85 = .ok (.putfield 137, 3) := by decide +kernel
theorem dX6_takeCondition_88 : decode cX6_takeCondition 88 = .ok (.aload_n 1, 1) := by decide +kernel
theorem dX6_takeCondition_89 : decode cX6_takeCondition 89 = .ok (.getfield 137, 3) := by decide +kernel
theorem dX6_takeCondition_92 : decode cX6_takeCondition 92 = .ok (.iconst (-1), 1) := by decide +kernel
theorem dX6_takeCondition_93 : decode cX6_takeCondition 93 = .ok (.if_icmp .eq 7, 3) := by decide +kernel
theorem dX6_takeCondition_96 : decode cX6_takeCondition 96 = .ok (.iconst 1, 1) := by decide +kernel
theorem dX6_takeCondition_97 : decode cX6_takeCondition 97 = .ok (.goto 4, 3) := by decide +kernel
theorem dX6_takeCondition_100 : decode cX6_takeCondition 100 = .ok (.iconst 0, 1) := by decide +kernel
theorem dX6_takeCondition_101 : decode cX6_takeCondition 101 = .ok (.ireturn, 1) := by decide +kernel
theorem dX6_takeCondition_102 : decode cX6_takeCondition 102 = .ok (.aload_n 1, 1) := by decide +kernel
theorem dX6_takeCondition_103 : decode cX6_takeCondition 103 = .ok (.getfield 84, 3) := by decide +kernel
theorem dX6_takeCondition_106 : decode cX6_takeCondition 106 = .ok (.getfield 142, 3) := by decide +kernel
theorem dX6_takeCondition_109 : decode cX6_takeCondition 109 = .ok (.ifCond .eq 44, 3) := by decide +kernel
theorem dX6_takeCondition_112 : decode cX6_takeCondition 112 = .ok (.aload_n 1, 1) := by decide +kernel
theorem dX6_takeCondition_113 : decode cX6_takeCondition 113 = .ok (.getfield 145, 3) := by decide +kernel
theorem dX6_takeCondition_116 : decode cX6_takeCondition 116 = .ok (.iconst (-1), 1) := by decide +kernel
theorem dX6_takeCondition_117 : decode cX6_takeCondition 117 = .ok (.if_icmp .ne 36, 3) := by decide +kernel
theorem dX6_takeCondition_120 : decode cX6_takeCondition 120 = .ok (.aload_n 0, 1) := by decide +kernel
theorem dX6_takeCondition_121 : decode cX6_takeCondition 121 = .ok (.ldc 148, 2) := by decide +kernel
theorem dX6_takeCondition_123 : decode cX6_takeCondition 123 = .ok (.invokevirtual 80, 3) := by decide +kernel
theorem dX6_takeCondition_126 : decode cX6_takeCondition 126 = .ok (.ifCond .eq 27, 3) := by decide +kernel
theorem dX6_takeCondition_129 : decode cX6_takeCondition 129 = .ok (.aload_n 1, 1) := by decide +kernel
theorem dX6_takeCondition_130 : decode cX6_takeCondition 130 = .ok (.aload_n 0, 1) := by decide +kernel
theorem dX6_takeCondition_131 : decode cX6_takeCondition 131 = .ok (.ldc 118, 2) := by decide +kernel
theorem dX6_takeCondition_133 : decode cX6_takeCondition 133 = .ok (.invokevirtual 107, 3) := by decide +kernel
theorem dX6_takeCondition_136 : decode cX6_takeCondition 136 = .ok (.putfield 145, 3) := by decide +kernel
theorem dX6_takeCondition_139 : decode cX6_takeCondition 139 = .ok (.aload_n 1, 1) := by decide +kernel
theorem dX6_takeCondition_140 : decode cX6_takeCondition 140 = .ok (.getfield 145, 3) := by decide +kernel
theorem dX6_takeCondition_143 : decode cX6_takeCondition 143 = .ok (.iconst (-1), 1) := by decide +kernel
theorem dX6_takeCondition_144 : decode cX6_takeCondition 144 = .ok (.if_icmp .eq 7, 3) := by decide +kernel
theorem dX6_takeCondition_147 : decode cX6_takeCondition 147 = .ok (.iconst 1, 1) := by decide +kernel
theorem dX6_takeCondition_148 : decode cX6_takeCondition 148 = .ok (.goto 4, 3) := by decide +kernel
theorem dX6_takeCondition_151 : decode cX6_takeCondition 151 = .ok (.iconst 0, 1) := by decide +kernel
theorem dX6_takeCondition_152 : decode cX6_takeCondition 152 = .ok (.ireturn, 1) := by decide +kernel
theorem dX6_takeCondition_153 : decode cX6_takeCondition 153 = .ok (.iconst 0, 1) := by decide +kernel
theorem dX6_takeCondition_154 : decode cX6_takeCondition 154 = .ok (.ireturn, 1) := by decide +kernel

abbrev mX6_takeLayers : sv_M := (cX6_takeLayers, 2, yX6_takeLayers, wsX6_takeLayers, (some .boolean), { frames := 40, cells := 0, slots := 0, locals := 2000 }, [])
abbrev mX6_takeCondition : sv_M := (cX6_takeCondition, 2, yX6_takeCondition, wsX6_takeCondition, (some .boolean), { frames := 40, cells := 0, slots := 0, locals := 2000 }, [])
abbrev mX6_takeConditions : sv_M := (cX6_takeConditions, 3, yX6_takeConditions, wsX6_takeConditions, (some .boolean), { frames := 50, cells := 0, slots := 0, locals := 2500 }, [])
theorem k_lay : ∀ i, i < 11 → ([1, 1, 1, 1, 1, 1, 1, 2, 2, 2, 2] : List Int32).getD i 0 = (if i < 7 then 1 else 2) := by decide
set_option maxHeartbeats 4000000 in
set_option maxRecDepth 100000 in
theorem c_layersW (G : sv_G) (h0 : sv_h) (z b n : Nat) (tp : Nat → Int32) (k : Int32) (A d : Nat) (X : cx_ G b n tp h0 A d) (j : Nat) (n0 : Int64) (kd : Nat) (x1 x2 x3 x4 x5 x6 : Int32) (h : sv_h) (Hw : cw_ G b n tp k A d h0 h j n0 kd x1 x2 x3 x4 x5 x6) (hkd : kd < 11) : CT G mX6_takeLayers [.ref (b + 10), .ref (A + 1 + d)] h z (fun v h1 z1 => z1 = z ∧ ∃ (w0 : Int32) (j1 : Nat) (y1 y2 : Int32), v = some (.int w0) ∧ cw_ G b n tp k A d h0 h1 j1 n0 kd y1 y2 x3 x4 x5 x6 ∧ ((w0 = 1 ∧ w_nu n tp k j ∧ y1 = w_nv n tp j ∧ ((kd < 7 ∧ y2 = y1 ∧ j1 = j + 1) ∨ (¬ kd < 7 ∧ w_nu n tp k (j + 1) ∧ y2 = w_nv n tp (j + 1) ∧ j1 = j + 2))) ∨ (w0 = 0 ∧ ((¬ w_nu n tp k j ∧ j1 = j) ∨ (w_nu n tp k j ∧ ¬ kd < 7 ∧ ¬ w_nu n tp k (j + 1) ∧ j1 = j + 1))))) := by
  refine CT.of (by decide +kernel) rfl rfl (Nat.le_of_ble_eq_true rfl) ?_
  obtain ⟨hrd, hru, fr⟩ := id Hw
  obtain ⟨hn, hok, t1, ⟨f, t2, htp⟩, hA, hd⟩ := id X
  have ht1 := (fr (b + 8) (by omega) (by omega)).trans t1
  have ht2 : ab_I G h (b + 9) 600 f := (fr (b + 9) (by omega) (by omega)).trans t2
  refine v_aload_n dX6_takeLayers_0 rfl 1 rfl ?_
  refine v_aload_n dX6_takeLayers_1 rfl 0 rfl ?_
  refine v_aload_n dX6_takeLayers_2 rfl 0 rfl ?_
  refine v_getf 1 (ci := 4) (C := RX6) (T := TX6) (N := 9) rfl iwX6_takeLayers_X6 (Nat.le_of_ble_eq_true rfl) (by decide +kernel) dX6_takeLayers_3 (by repeat (first | with_reducible assumption | (with_reducible refine sv_us.trans ?_; exact rfl) | with_reducible refine (sv_un (by omega)).trans ?_)) (by exact rfl) ?_
  refine v_callVq (M' := mX6_takeNumber) (n := 1) (As := [_]) (ci := 4) (r := (RX6, TX6, 9)) gX6_takeLayers_X6_takeNumber rfl (by decide +kernel) ⟨(Nat.le_of_ble_eq_true rfl), (Nat.le_of_ble_eq_true rfl)⟩ rfl rfl dX6_takeLayers_6 rfl ⟨(Nat.le_of_ble_eq_true rfl), (Nat.le_of_ble_eq_true rfl)⟩ (Nat.le_of_ble_eq_true rfl) (by repeat (first | with_reducible assumption | (with_reducible refine sv_us.trans ?_; exact rfl) | with_reducible refine (sv_un (by omega)).trans ?_)) rfl (c_numW G h0 _ b n tp k A d X j n0 kd x1 x2 x3 x4 x5 x6 _ Hw k) (fun v h1 z1 hq => ?_)
  obtain ⟨rfl, y1, j1, rfl, Hw1, e1⟩ := hq
  obtain ⟨hrd1, hru1, fr1⟩ := id Hw1
  have ht11 := (fr1 (b + 8) (by omega) (by omega)).trans t1
  have ht21 : ab_I G h1 (b + 9) 600 f := (fr1 (b + 9) (by omega) (by omega)).trans t2
  refine v_putf 2 (fs' := [_, _, _, _, _, _, _, _]) (ci := 5) (C := RX7) (T := TX7) (N := 8) (ty := .int) rfl iwX6_takeLayers_X7 tyX7 tyX7_ok nmX7 (Nat.le_of_ble_eq_true rfl) (by decide +kernel) rfl rfl dX6_takeLayers_9 rfl rfl (by repeat (first | with_reducible assumption | (with_reducible refine sv_us.trans ?_; exact rfl) | with_reducible refine (sv_un (by omega)).trans ?_)) (Nat.le_of_ble_eq_true rfl) rfl ?_
  refine v_aload_n dX6_takeLayers_12 rfl 1 rfl ?_
  refine v_getf 2 (ci := 5) (C := RX7) (T := TX7) (N := 8) rfl iwX6_takeLayers_X7 (Nat.le_of_ble_eq_true rfl) (by decide +kernel) dX6_takeLayers_13 (by repeat (first | with_reducible assumption | (with_reducible refine sv_us.trans ?_; exact rfl) | with_reducible refine (sv_un (by omega)).trans ?_)) (by exact rfl) ?_
  refine v_iconst (v := (-1)) dX6_takeLayers_16 (by decide) ?_
  refine v_icmp_ne (tgt := 22) dX6_takeLayers_17 (by decide) (fun c_17 => ?_) (fun c_17 => ?_)
  · refine v_aload_n dX6_takeLayers_22 rfl 1 rfl ?_
    refine v_aload_n dX6_takeLayers_23 rfl 1 rfl ?_
    refine v_getf 1 (ci := 5) (C := RX7) (T := TX7) (N := 8) rfl iwX6_takeLayers_X7 (Nat.le_of_ble_eq_true rfl) (by decide +kernel) dX6_takeLayers_24 (by repeat (first | with_reducible assumption | (with_reducible refine sv_us.trans ?_; exact rfl) | with_reducible refine (sv_un (by omega)).trans ?_)) (by exact rfl) ?_
    refine v_kint (q := ("RuleDeck$Kind", "layers", "I", [1, 1, 1, 1, 1, 1, 1, 2, 2, 2, 2])) hkd (by decide) (k_lay kd hkd) (by decide +kernel) dX6_takeLayers_27 ?_
    refine v_iconst (v := 1) dX6_takeLayers_30 (by decide) ?_
    refine v_icmp_ne (tgt := 41) dX6_takeLayers_31 (by decide) (fun c_31 => ?_) (fun c_31 => ?_)
    · have hw9 := Hw1.put (m0 := n0) (ke := kd) (y1 := y1) (y2 := x2) (y3 := x3) (y4 := x4) (y5 := x5) (y6 := x6) X
      refine v_aload_n dX6_takeLayers_41 rfl 0 rfl ?_
      refine v_aload_n dX6_takeLayers_42 rfl 0 rfl ?_
      refine v_getf 1 (ci := 4) (C := RX6) (T := TX6) (N := 9) rfl iwX6_takeLayers_X6 (Nat.le_of_ble_eq_true rfl) (by decide +kernel) dX6_takeLayers_43 (by repeat (first | with_reducible assumption | (with_reducible refine sv_us.trans ?_; exact rfl) | with_reducible refine (sv_un (by omega)).trans ?_)) (by exact rfl) ?_
      refine v_callVq (M' := mX6_takeNumber) (n := 1) (As := [_]) (ci := 4) (r := (RX6, TX6, 9)) gX6_takeLayers_X6_takeNumber rfl (by decide +kernel) ⟨(Nat.le_of_ble_eq_true rfl), (Nat.le_of_ble_eq_true rfl)⟩ rfl rfl dX6_takeLayers_46 rfl ⟨(Nat.le_of_ble_eq_true rfl), (Nat.le_of_ble_eq_true rfl)⟩ (Nat.le_of_ble_eq_true rfl) (by repeat (first | with_reducible assumption | (with_reducible refine sv_us.trans ?_; exact rfl) | with_reducible refine (sv_un (by omega)).trans ?_)) rfl (c_numW G h0 _ b n tp k A d X j1 n0 kd y1 x2 x3 x4 x5 x6 _ hw9 k) (fun v h2 z2 hq => ?_)
      obtain ⟨rfl, y2, j2, rfl, Hw2, e2⟩ := hq
      obtain ⟨hrd2, hru2, fr2⟩ := id Hw2
      have ht12 := (fr2 (b + 8) (by omega) (by omega)).trans t1
      have ht22 : ab_I G h2 (b + 9) 600 f := (fr2 (b + 9) (by omega) (by omega)).trans t2
      refine v_putf 3 (fs' := [_, _, _, _, _, _, _, _]) (ci := 5) (C := RX7) (T := TX7) (N := 8) (ty := .int) rfl iwX6_takeLayers_X7 tyX7 tyX7_ok nmX7 (Nat.le_of_ble_eq_true rfl) (by decide +kernel) rfl rfl dX6_takeLayers_49 rfl rfl (by repeat (first | with_reducible assumption | (with_reducible refine sv_us.trans ?_; exact rfl) | with_reducible refine (sv_un (by omega)).trans ?_)) (Nat.le_of_ble_eq_true rfl) rfl ?_
      refine v_aload_n dX6_takeLayers_52 rfl 1 rfl ?_
      refine v_getf 3 (ci := 5) (C := RX7) (T := TX7) (N := 8) rfl iwX6_takeLayers_X7 (Nat.le_of_ble_eq_true rfl) (by decide +kernel) dX6_takeLayers_53 (by repeat (first | with_reducible assumption | (with_reducible refine sv_us.trans ?_; exact rfl) | with_reducible refine (sv_un (by omega)).trans ?_)) (by exact rfl) ?_
      refine v_iconst (v := (-1)) dX6_takeLayers_56 (by decide) ?_
      refine v_icmp_eq (tgt := 64) dX6_takeLayers_57 (by decide) (fun c_57 => ?_) (fun c_57 => ?_)
      · refine v_iconst (v := 0) dX6_takeLayers_64 (by decide) ?_
        exact v_iret rfl dX6_takeLayers_65 (Nat.le_of_ble_eq_true rfl) (Nat.le_of_ble_eq_true rfl) rfl (by
      rcases e1 with ⟨r1, r2, r3⟩ | ⟨r1, r2, r3⟩
      · have h7 : ¬ kd < 7 := fun q => c_31 (if_pos q)
        subst r3
        rcases e2 with ⟨s1, s2, s3⟩ | ⟨s1, s2, s3⟩
        · first
            | (have c9 : ¬ y2 = -1 := c_57; exact ⟨rfl, 1, j2, y1, y2, rfl, Hw2.put X, Or.inl ⟨rfl, r2, r1, Or.inr ⟨h7, s2, s1, s3⟩⟩⟩)
            | (have c9 : y2 = -1 := c_57; exact absurd (s1.symm.trans c9) (w_nvm s2.1))
        · first
            | (have c9 : ¬ y2 = -1 := c_57; exact absurd s1 c9)
            | (have c9 : y2 = -1 := c_57; exact ⟨rfl, 0, j2, y1, y2, rfl, Hw2.put X, Or.inr ⟨rfl, Or.inr ⟨r2, h7, s2, s3⟩⟩⟩)
      · exact absurd r1 c_17)
      · refine v_iconst (v := 1) dX6_takeLayers_60 (by decide) ?_
        refine v_goto (tgt := 65) dX6_takeLayers_61 (by decide) ?_
        exact v_iret rfl dX6_takeLayers_65 (Nat.le_of_ble_eq_true rfl) (Nat.le_of_ble_eq_true rfl) rfl (by
      rcases e1 with ⟨r1, r2, r3⟩ | ⟨r1, r2, r3⟩
      · have h7 : ¬ kd < 7 := fun q => c_31 (if_pos q)
        subst r3
        rcases e2 with ⟨s1, s2, s3⟩ | ⟨s1, s2, s3⟩
        · first
            | (have c9 : ¬ y2 = -1 := c_57; exact ⟨rfl, 1, j2, y1, y2, rfl, Hw2.put X, Or.inl ⟨rfl, r2, r1, Or.inr ⟨h7, s2, s1, s3⟩⟩⟩)
            | (have c9 : y2 = -1 := c_57; exact absurd (s1.symm.trans c9) (w_nvm s2.1))
        · first
            | (have c9 : ¬ y2 = -1 := c_57; exact absurd s1 c9)
            | (have c9 : y2 = -1 := c_57; exact ⟨rfl, 0, j2, y1, y2, rfl, Hw2.put X, Or.inr ⟨rfl, Or.inr ⟨r2, h7, s2, s3⟩⟩⟩)
      · exact absurd r1 c_17)
    · refine v_aload_n dX6_takeLayers_34 rfl 1 rfl ?_
      refine v_getf 2 (ci := 5) (C := RX7) (T := TX7) (N := 8) rfl iwX6_takeLayers_X7 (Nat.le_of_ble_eq_true rfl) (by decide +kernel) dX6_takeLayers_35 (by repeat (first | with_reducible assumption | (with_reducible refine sv_us.trans ?_; exact rfl) | with_reducible refine (sv_un (by omega)).trans ?_)) (by exact rfl) ?_
      refine v_goto (tgt := 49) dX6_takeLayers_38 (by decide) ?_
      refine v_putf 3 (fs' := [_, _, _, _, _, _, _, _]) (ci := 5) (C := RX7) (T := TX7) (N := 8) (ty := .int) rfl iwX6_takeLayers_X7 tyX7 tyX7_ok nmX7 (Nat.le_of_ble_eq_true rfl) (by decide +kernel) rfl rfl dX6_takeLayers_49 rfl rfl (by repeat (first | with_reducible assumption | (with_reducible refine sv_us.trans ?_; exact rfl) | with_reducible refine (sv_un (by omega)).trans ?_)) (Nat.le_of_ble_eq_true rfl) rfl ?_
      refine v_aload_n dX6_takeLayers_52 rfl 1 rfl ?_
      refine v_getf 3 (ci := 5) (C := RX7) (T := TX7) (N := 8) rfl iwX6_takeLayers_X7 (Nat.le_of_ble_eq_true rfl) (by decide +kernel) dX6_takeLayers_53 (by repeat (first | with_reducible assumption | (with_reducible refine sv_us.trans ?_; exact rfl) | with_reducible refine (sv_un (by omega)).trans ?_)) (by exact rfl) ?_
      refine v_iconst (v := (-1)) dX6_takeLayers_56 (by decide) ?_
      refine v_icmp_eq (tgt := 64) dX6_takeLayers_57 (by decide) (fun c_57 => ?_) (fun c_57 => ?_)
      · refine v_iconst (v := 0) dX6_takeLayers_64 (by decide) ?_
        exact v_iret rfl dX6_takeLayers_65 (Nat.le_of_ble_eq_true rfl) (Nat.le_of_ble_eq_true rfl) rfl (by
      rcases e1 with ⟨r1, r2, r3⟩ | ⟨r1, r2, r3⟩
      · have h7 : kd < 7 := by
          by_cases q : kd < 7
          · exact q
          · rw [if_neg q] at c_31; exact absurd c_31 (by decide)
        first
          | (have c9 : ¬ y1 = -1 := c_57; exact ⟨rfl, 1, j1, y1, y1, rfl, (Hw1.put (m0 := n0) (ke := kd) (y1 := y1) (y2 := x2) (y3 := x3) (y4 := x4) (y5 := x5) (y6 := x6) X).put X, Or.inl ⟨rfl, r2, r1, Or.inl ⟨h7, rfl, r3⟩⟩⟩)
          | (have c9 : y1 = -1 := c_57; exact absurd (r1.symm.trans c9) (w_nvm r2.1))
      · exact absurd r1 c_17)
      · refine v_iconst (v := 1) dX6_takeLayers_60 (by decide) ?_
        refine v_goto (tgt := 65) dX6_takeLayers_61 (by decide) ?_
        exact v_iret rfl dX6_takeLayers_65 (Nat.le_of_ble_eq_true rfl) (Nat.le_of_ble_eq_true rfl) rfl (by
      rcases e1 with ⟨r1, r2, r3⟩ | ⟨r1, r2, r3⟩
      · have h7 : kd < 7 := by
          by_cases q : kd < 7
          · exact q
          · rw [if_neg q] at c_31; exact absurd c_31 (by decide)
        first
          | (have c9 : ¬ y1 = -1 := c_57; exact ⟨rfl, 1, j1, y1, y1, rfl, (Hw1.put (m0 := n0) (ke := kd) (y1 := y1) (y2 := x2) (y3 := x3) (y4 := x4) (y5 := x5) (y6 := x6) X).put X, Or.inl ⟨rfl, r2, r1, Or.inl ⟨h7, rfl, r3⟩⟩⟩)
          | (have c9 : y1 = -1 := c_57; exact absurd (r1.symm.trans c9) (w_nvm r2.1))
      · exact absurd r1 c_17)
  · refine v_iconst (v := 0) dX6_takeLayers_20 (by decide) ?_
    exact v_iret rfl dX6_takeLayers_21 (Nat.le_of_ble_eq_true rfl) (Nat.le_of_ble_eq_true rfl) rfl (by
          rcases e1 with ⟨r1, r2, r3⟩ | ⟨r1, r2, r3⟩
          · exact absurd (r1.symm.trans c_17) (w_nvm r2.1)
          · exact ⟨rfl, 0, j1, y1, x2, rfl, Hw1.put X, Or.inr ⟨rfl, Or.inl ⟨r2, r3⟩⟩⟩)

set_option maxHeartbeats 4000000 in
set_option maxRecDepth 100000 in
theorem c_limitW (G : sv_G) (h0 : sv_h) (z b n : Nat) (tp : Nat → Int32) (k : Int32) (A d : Nat) (X : cx_ G b n tp h0 A d) (j : Nat) (n0 : Int64) (kd : Nat) (x1 x2 x3 x4 x5 x6 : Int32) (h : sv_h) (Hw : cw_ G b n tp k A d h0 h j n0 kd x1 x2 x3 x4 x5 x6) : CT G mX6_takeLimit [.ref (b + 10), .ref (A + 1 + d)] h z (fun v h1 z1 => z1 = z ∧ ∃ (w0 : Int32) (j1 : Nat) (y3 : Int32), v = some (.int w0) ∧ cw_ G b n tp k A d h0 h1 j1 n0 kd x1 x2 y3 x4 x5 x6 ∧ ((w0 = 1 ∧ w_nu n tp 1000000000 j ∧ y3 = w_nv n tp j ∧ j1 = j + 1) ∨ (w0 = 0 ∧ ¬ w_nu n tp 1000000000 j ∧ j1 = j))) := by
  refine CT.of (by decide +kernel) rfl rfl (Nat.le_of_ble_eq_true rfl) ?_
  obtain ⟨hrd, hru, fr⟩ := id Hw
  obtain ⟨hn, hok, t1, ⟨f, t2, htp⟩, hA, hd⟩ := id X
  have ht1 := (fr (b + 8) (by omega) (by omega)).trans t1
  have ht2 : ab_I G h (b + 9) 600 f := (fr (b + 9) (by omega) (by omega)).trans t2
  refine v_aload_n dX6_takeLimit_0 rfl 1 rfl ?_
  refine v_aload_n dX6_takeLimit_1 rfl 0 rfl ?_
  refine v_ldc (v := (1000000000)) (by decide +kernel) dX6_takeLimit_2 ?_
  refine v_callVq (M' := mX6_takeNumber) (n := 1) (As := [_]) (ci := 4) (r := (RX6, TX6, 9)) gX6_takeLimit_X6_takeNumber rfl (by decide +kernel) ⟨(Nat.le_of_ble_eq_true rfl), (Nat.le_of_ble_eq_true rfl)⟩ rfl rfl dX6_takeLimit_4 rfl ⟨(Nat.le_of_ble_eq_true rfl), (Nat.le_of_ble_eq_true rfl)⟩ (Nat.le_of_ble_eq_true rfl) (by repeat (first | with_reducible assumption | (with_reducible refine sv_us.trans ?_; exact rfl) | with_reducible refine (sv_un (by omega)).trans ?_)) rfl (c_numW G h0 _ b n tp k A d X j n0 kd x1 x2 x3 x4 x5 x6 _ Hw 1000000000) (fun v h1 z1 hq => ?_)
  obtain ⟨rfl, y1, j1, rfl, Hw1, e1⟩ := hq
  obtain ⟨hrd1, hru1, fr1⟩ := id Hw1
  have ht11 := (fr1 (b + 8) (by omega) (by omega)).trans t1
  have ht21 : ab_I G h1 (b + 9) 600 f := (fr1 (b + 9) (by omega) (by omega)).trans t2
  refine v_putf 4 (fs' := [_, _, _, _, _, _, _, _]) (ci := 5) (C := RX7) (T := TX7) (N := 8) (ty := .int) rfl iwX6_takeLimit_X7 tyX7 tyX7_ok nmX7 (Nat.le_of_ble_eq_true rfl) (by decide +kernel) rfl rfl dX6_takeLimit_7 rfl rfl (by repeat (first | with_reducible assumption | (with_reducible refine sv_us.trans ?_; exact rfl) | with_reducible refine (sv_un (by omega)).trans ?_)) (Nat.le_of_ble_eq_true rfl) rfl ?_
  refine v_aload_n dX6_takeLimit_10 rfl 1 rfl ?_
  refine v_getf 4 (ci := 5) (C := RX7) (T := TX7) (N := 8) rfl iwX6_takeLimit_X7 (Nat.le_of_ble_eq_true rfl) (by decide +kernel) dX6_takeLimit_11 (by repeat (first | with_reducible assumption | (with_reducible refine sv_us.trans ?_; exact rfl) | with_reducible refine (sv_un (by omega)).trans ?_)) (by exact rfl) ?_
  refine v_iconst (v := (-1)) dX6_takeLimit_14 (by decide) ?_
  refine v_icmp_eq (tgt := 22) dX6_takeLimit_15 (by decide) (fun c_15 => ?_) (fun c_15 => ?_)
  · refine v_iconst (v := 0) dX6_takeLimit_22 (by decide) ?_
    exact v_iret rfl dX6_takeLimit_23 (Nat.le_of_ble_eq_true rfl) (Nat.le_of_ble_eq_true rfl) rfl (by
          rcases e1 with ⟨r1, r2, r3⟩ | ⟨r1, r2, r3⟩
          · first
              | (have c9 : ¬ y1 = -1 := c_15; exact ⟨rfl, 1, j1, y1, rfl, Hw1.put X, Or.inl ⟨rfl, r2, r1, r3⟩⟩)
              | (have c9 : y1 = -1 := c_15; exact absurd (r1.symm.trans c9) (w_nvm r2.1))
          · first
              | (have c9 : ¬ y1 = -1 := c_15; exact absurd r1 c9)
              | (have c9 : y1 = -1 := c_15; exact ⟨rfl, 0, j1, y1, rfl, Hw1.put X, Or.inr ⟨rfl, r2, r3⟩⟩))
  · refine v_iconst (v := 1) dX6_takeLimit_18 (by decide) ?_
    refine v_goto (tgt := 23) dX6_takeLimit_19 (by decide) ?_
    exact v_iret rfl dX6_takeLimit_23 (Nat.le_of_ble_eq_true rfl) (Nat.le_of_ble_eq_true rfl) rfl (by
          rcases e1 with ⟨r1, r2, r3⟩ | ⟨r1, r2, r3⟩
          · first
              | (have c9 : ¬ y1 = -1 := c_15; exact ⟨rfl, 1, j1, y1, rfl, Hw1.put X, Or.inl ⟨rfl, r2, r1, r3⟩⟩)
              | (have c9 : y1 = -1 := c_15; exact absurd (r1.symm.trans c9) (w_nvm r2.1))
          · first
              | (have c9 : ¬ y1 = -1 := c_15; exact absurd r1 c9)
              | (have c9 : y1 = -1 := c_15; exact ⟨rfl, 0, j1, y1, rfl, Hw1.put X, Or.inr ⟨rfl, r2, r3⟩⟩))

theorem c_nameW (G : sv_G) (h0 : sv_h) (z b n : Nat) (tp : Nat → Int32) (k : Int32) (A d : Nat) (X : cx_ G b n tp h0 A d) (j : Nat) (n0 : Int64) (kd : Nat) (x1 x2 x3 x4 x5 x6 : Int32) (h : sv_h) (Hw : cw_ G b n tp k A d h0 h j n0 kd x1 x2 x3 x4 x5 x6) (fq : Nat → Option Nat) (hQ : ab_Q G h A 5 20 fq) (hfq : ∀ j, j < 20 → fq j = some (A + 1 + j)) (nm : Nat → Int64) (hnm : ∀ i, i < d → ∃ (kd0 : Nat) (y1 y2 y3 y4 y5 y6 : Int32), h (A + 1 + i) = some (.inr (5, [.long (nm i), .ref kd0, .int y1, .int y2, .int y3, .int y4, .int y5, .int y6]))) : CT G mX6_takeName [.ref (b + 10), .ref (A + 1 + d)] h z (fun v h1 z1 => z1 = z ∧ ∃ w0 : Int32, v = some (.int w0) ∧ ((w0 = 1 ∧ rd_new n tp nm d j ∧ cw_ G b n tp k A d h0 h1 (j + 1) (wV n tp j) kd x1 x2 x3 x4 x5 x6) ∨ (w0 = 0 ∧ ¬ rd_new n tp nm d j ∧ cw_ G b n tp k A d h0 h1 j n0 kd x1 x2 x3 x4 x5 x6))) := by
  obtain ⟨hrd, hru, fr⟩ := id Hw
  obtain ⟨hn, hok, t1, ⟨f, t2, htp⟩, hA, hd⟩ := id X
  have ht1 := (fr (b + 8) (by omega) (by omega)).trans t1
  have ht2 : ab_I G h (b + 9) 600 f := (fr (b + 9) (by omega) (by omega)).trans t2
  refine (c_takeName G h z b n k (nI d) (nI j) A f tp ht1 ht2 htp hn (lx_W n tp j).1 (lx_W n tp j).2 (lx_W_le n tp j).2 hrd d hd fq hQ hfq nm hnm n0 _ x1 x2 x3 x4 x5 x6 hru hA rfl).mono (fun v h1 z1 _ hq => ?_)
  obtain ⟨rfl, w0, q2, q3⟩ := hq
  rcases q3 with ⟨r1, r2, ⟨a1, e1, T, r3⟩, r4, r5⟩ | ⟨r1, r2, rfl⟩
  · exact ⟨rfl, w0, q2, Or.inl ⟨r1, r2, rd_nx T r3, r4, fun w p q => (r5 w p q).trans (fr w p q)⟩⟩
  · exact ⟨rfl, w0, q2, Or.inr ⟨r1, r2, Hw⟩⟩
theorem k_run : ∀ i, i < 11 → (¬ ([1, 1, 0, 0, 0, 0, 0, 1, 0, 1, 1] : List Int32).getD i 0 = 0 ↔ (nI i = 0 ∨ nI i = 1 ∨ nI i = 7 ∨ nI i = 9 ∨ nI i = 10)) := by decide
theorem k_volt : ∀ i, i < 11 → (¬ ([0, 0, 0, 0, 0, 0, 0, 1, 1, 0, 0] : List Int32).getD i 0 = 0 ↔ (nI i = 7 ∨ nI i = 8)) := by decide
theorem k_end : ∀ i, i < 11 → (¬ ([0, 0, 0, 0, 0, 0, 0, 1, 0, 0, 0] : List Int32).getD i 0 = 0 ↔ nI i = 7) := by decide
set_option maxHeartbeats 4000000 in
set_option maxRecDepth 100000 in
theorem t_k102 (G : sv_G) (h0 : sv_h) (z b n : Nat) (tp : Nat → Int32) (k : Int32) (A d : Nat) (X : cx_ G b n tp h0 A d) (j : Nat) (n0 : Int64) (kd : Nat) (x1 x2 x3 x4 x5 x6 : Int32) (h : sv_h) (Hw : cw_ G b n tp k A d h0 h j n0 kd x1 x2 x3 x4 x5 x6) (hkd : kd < 11) (n1 : ¬ (w_is n tp (mk_5 114 117 110 0 0) j ∧ x4 = -1 ∧ (nI kd = 0 ∨ nI kd = 1 ∨ nI kd = 7 ∨ nI kd = 9 ∨ nI kd = 10))) (n2 : ¬ (w_is n tp (mk_5 118 111 108 116 0) j ∧ x5 = -1 ∧ (nI kd = 7 ∨ nI kd = 8))) : V G mX6_takeCondition (sv_MQ G mX6_takeCondition (fun v h1 z1 => z1 = z ∧ ∃ w0 : Int32, v = some (.int w0) ∧ ((w0 = 1 ∧ ¬ (cd_w n tp (nI kd) x4 x5 x6 j) = 0 ∧ w_nu n tp 1000000000 (j + 1) ∧ cw_ G b n tp k A d h0 h1 (j + 2) n0 kd x1 x2 x3 (cd_x (cd_w n tp (nI kd) x4 x5 x6 j) 1 x4 (w_nv n tp (j + 1))) (cd_x (cd_w n tp (nI kd) x4 x5 x6 j) 2 x5 (w_nv n tp (j + 1))) (cd_x (cd_w n tp (nI kd) x4 x5 x6 j) 3 x6 (w_nv n tp (j + 1)))) ∨ (w0 = 0 ∧ (cd_w n tp (nI kd) x4 x5 x6 j) = 0 ∧ cw_ G b n tp k A d h0 h1 j n0 kd x1 x2 x3 x4 x5 x6) ∨ (w0 = 0 ∧ ¬ (cd_w n tp (nI kd) x4 x5 x6 j) = 0 ∧ ¬ w_nu n tp 1000000000 (j + 1) ∧ ∃ y4 y5 y6, cw_ G b n tp k A d h0 h1 (j + 1) n0 kd x1 x2 x3 y4 y5 y6)))) 102 [(0, .ref (b + 10)), (1, .ref (A + 1 + d))] [] h z 0 0 := by
  obtain ⟨hrd, hru, fr⟩ := id Hw
  obtain ⟨hn, hok, t1, ⟨f, t2, htp⟩, hA, hd⟩ := id X
  have ht1 := (fr (b + 8) (by omega) (by omega)).trans t1
  have ht2 : ab_I G h (b + 9) 600 f := (fr (b + 9) (by omega) (by omega)).trans t2
  refine v_aload_n dX6_takeCondition_102 rfl 1 rfl ?_
  refine v_getf 1 (ci := 5) (C := RX7) (T := TX7) (N := 8) rfl iwX6_takeCondition_X7 (Nat.le_of_ble_eq_true rfl) (by decide +kernel) dX6_takeCondition_103 (by repeat (first | with_reducible assumption | (with_reducible refine sv_us.trans ?_; exact rfl) | with_reducible refine (sv_un (by omega)).trans ?_)) (by exact rfl) ?_
  refine v_kint (q := ("RuleDeck$Kind", "takesEnd", "Z", [0, 0, 0, 0, 0, 0, 0, 1, 0, 0, 0])) hkd (by decide) rfl (by decide +kernel) dX6_takeCondition_106 ?_
  refine v_if_eq (tgt := 153) dX6_takeCondition_109 (by decide) (fun c_109 => ?_) (fun c_109 => ?_)
  · refine v_iconst (v := 0) dX6_takeCondition_153 (by decide) ?_
    exact v_iret rfl dX6_takeCondition_154 (Nat.le_of_ble_eq_true rfl) (Nat.le_of_ble_eq_true rfl) rfl (by
          have hN : ¬ (w_is n tp (mk_5 101 110 100 0 0) j ∧ x6 = -1 ∧ nI kd = 7) := (by
          rintro ⟨r1, r2, r3⟩
          first
            | exact absurd r2 c_117
            | exact absurd c_109 ((k_end kd hkd).mpr r3)
            | (rcases e1 with ⟨s1, s2, s3⟩ | ⟨s1, s2, s3⟩
               · exact absurd (s1.symm.trans c_126) (by decide)
               · exact s2 (by rw [ww_end]; exact r1)))
          first
            | (have c9 := e1; rcases c9 with ⟨s1, s2, s3⟩ | ⟨s1, s2, s3⟩
               · exact absurd (s1.symm.trans c_126) (by decide)
               · subst s3; exact ⟨rfl, 0, rfl, Or.inr (Or.inl ⟨rfl, cd_0.mpr ⟨n1, n2, hN⟩, Hw1⟩)⟩)
            | exact ⟨rfl, 0, rfl, Or.inr (Or.inl ⟨rfl, cd_0.mpr ⟨n1, n2, hN⟩, Hw⟩)⟩)
  · refine v_aload_n dX6_takeCondition_112 rfl 1 rfl ?_
    refine v_getf 7 (ci := 5) (C := RX7) (T := TX7) (N := 8) rfl iwX6_takeCondition_X7 (Nat.le_of_ble_eq_true rfl) (by decide +kernel) dX6_takeCondition_113 (by repeat (first | with_reducible assumption | (with_reducible refine sv_us.trans ?_; exact rfl) | with_reducible refine (sv_un (by omega)).trans ?_)) (by exact rfl) ?_
    refine v_iconst (v := (-1)) dX6_takeCondition_116 (by decide) ?_
    refine v_icmp_ne (tgt := 153) dX6_takeCondition_117 (by decide) (fun c_117 => ?_) (fun c_117 => ?_)
    · refine v_iconst (v := 0) dX6_takeCondition_153 (by decide) ?_
      exact v_iret rfl dX6_takeCondition_154 (Nat.le_of_ble_eq_true rfl) (Nat.le_of_ble_eq_true rfl) rfl (by
            have hN : ¬ (w_is n tp (mk_5 101 110 100 0 0) j ∧ x6 = -1 ∧ nI kd = 7) := (by
            rintro ⟨r1, r2, r3⟩
            first
              | exact absurd r2 c_117
              | exact absurd c_109 ((k_end kd hkd).mpr r3)
              | (rcases e1 with ⟨s1, s2, s3⟩ | ⟨s1, s2, s3⟩
                 · exact absurd (s1.symm.trans c_126) (by decide)
                 · exact s2 (by rw [ww_end]; exact r1)))
            first
              | (have c9 := e1; rcases c9 with ⟨s1, s2, s3⟩ | ⟨s1, s2, s3⟩
                 · exact absurd (s1.symm.trans c_126) (by decide)
                 · subst s3; exact ⟨rfl, 0, rfl, Or.inr (Or.inl ⟨rfl, cd_0.mpr ⟨n1, n2, hN⟩, Hw1⟩)⟩)
              | exact ⟨rfl, 0, rfl, Or.inr (Or.inl ⟨rfl, cd_0.mpr ⟨n1, n2, hN⟩, Hw⟩)⟩)
    · refine v_aload_n dX6_takeCondition_120 rfl 0 rfl ?_
      refine v_kldc (q := (148, "end", 33)) (by decide) rfl rfl dX6_takeCondition_121 ?_
      refine v_callVq (M' := mX6_takeWord) (n := 1) (As := [_]) (ci := 4) (r := (RX6, TX6, 9)) gX6_takeCondition_X6_takeWord rfl (by decide +kernel) ⟨(Nat.le_of_ble_eq_true rfl), (Nat.le_of_ble_eq_true rfl)⟩ rfl rfl dX6_takeCondition_123 rfl ⟨(Nat.le_of_ble_eq_true rfl), (Nat.le_of_ble_eq_true rfl)⟩ (Nat.le_of_ble_eq_true rfl) (by repeat (first | with_reducible assumption | (with_reducible refine sv_us.trans ?_; exact rfl) | with_reducible refine (sv_un (by omega)).trans ?_)) rfl (c_wordW G h0 _ b n tp k A d X j n0 kd x1 x2 x3 x4 x5 x6 h Hw 13 (by decide)) (fun v h1 z1 hq => ?_)
      obtain ⟨rfl, w0, j1, rfl, Hw1, e1⟩ := hq
      obtain ⟨hrd1, hru1, fr1⟩ := id Hw1
      have ht11 := (fr1 (b + 8) (by omega) (by omega)).trans t1
      have ht21 : ab_I G h1 (b + 9) 600 f := (fr1 (b + 9) (by omega) (by omega)).trans t2
      refine v_if_eq (tgt := 153) dX6_takeCondition_126 (by decide) (fun c_126 => ?_) (fun c_126 => ?_)
      · refine v_iconst (v := 0) dX6_takeCondition_153 (by decide) ?_
        exact v_iret rfl dX6_takeCondition_154 (Nat.le_of_ble_eq_true rfl) (Nat.le_of_ble_eq_true rfl) rfl (by
              have hN : ¬ (w_is n tp (mk_5 101 110 100 0 0) j ∧ x6 = -1 ∧ nI kd = 7) := (by
              rintro ⟨r1, r2, r3⟩
              first
                | exact absurd r2 c_117
                | exact absurd c_109 ((k_end kd hkd).mpr r3)
                | (rcases e1 with ⟨s1, s2, s3⟩ | ⟨s1, s2, s3⟩
                   · exact absurd (s1.symm.trans c_126) (by decide)
                   · exact s2 (by rw [ww_end]; exact r1)))
              first
                | (have c9 := e1; rcases c9 with ⟨s1, s2, s3⟩ | ⟨s1, s2, s3⟩
                   · exact absurd (s1.symm.trans c_126) (by decide)
                   · subst s3; exact ⟨rfl, 0, rfl, Or.inr (Or.inl ⟨rfl, cd_0.mpr ⟨n1, n2, hN⟩, Hw1⟩)⟩)
                | exact ⟨rfl, 0, rfl, Or.inr (Or.inl ⟨rfl, cd_0.mpr ⟨n1, n2, hN⟩, Hw⟩)⟩)
      · refine v_aload_n dX6_takeCondition_129 rfl 1 rfl ?_
        refine v_aload_n dX6_takeCondition_130 rfl 0 rfl ?_
        refine v_ldc (v := (1000000000)) (by decide +kernel) dX6_takeCondition_131 ?_
        refine v_callVq (M' := mX6_takeNumber) (n := 1) (As := [_]) (ci := 4) (r := (RX6, TX6, 9)) gX6_takeCondition_X6_takeNumber rfl (by decide +kernel) ⟨(Nat.le_of_ble_eq_true rfl), (Nat.le_of_ble_eq_true rfl)⟩ rfl rfl dX6_takeCondition_133 rfl ⟨(Nat.le_of_ble_eq_true rfl), (Nat.le_of_ble_eq_true rfl)⟩ (Nat.le_of_ble_eq_true rfl) (by repeat (first | with_reducible assumption | (with_reducible refine sv_us.trans ?_; exact rfl) | with_reducible refine (sv_un (by omega)).trans ?_)) rfl (c_numW G h0 _ b n tp k A d X j1 n0 kd x1 x2 x3 x4 x5 x6 _ Hw1 1000000000) (fun v h2 z2 hq => ?_)
        obtain ⟨rfl, y2, j2, rfl, Hw2, e2⟩ := hq
        obtain ⟨hrd2, hru2, fr2⟩ := id Hw2
        have ht12 := (fr2 (b + 8) (by omega) (by omega)).trans t1
        have ht22 : ab_I G h2 (b + 9) 600 f := (fr2 (b + 9) (by omega) (by omega)).trans t2
        refine v_putf 7 (fs' := [_, _, _, _, _, _, _, _]) (ci := 5) (C := RX7) (T := TX7) (N := 8) (ty := .int) rfl iwX6_takeCondition_X7 tyX7 tyX7_ok nmX7 (Nat.le_of_ble_eq_true rfl) (by decide +kernel) rfl rfl dX6_takeCondition_136 rfl rfl (by repeat (first | with_reducible assumption | (with_reducible refine sv_us.trans ?_; exact rfl) | with_reducible refine (sv_un (by omega)).trans ?_)) (Nat.le_of_ble_eq_true rfl) rfl ?_
        refine v_aload_n dX6_takeCondition_139 rfl 1 rfl ?_
        refine v_getf 7 (ci := 5) (C := RX7) (T := TX7) (N := 8) rfl iwX6_takeCondition_X7 (Nat.le_of_ble_eq_true rfl) (by decide +kernel) dX6_takeCondition_140 (by repeat (first | with_reducible assumption | (with_reducible refine sv_us.trans ?_; exact rfl) | with_reducible refine (sv_un (by omega)).trans ?_)) (by exact rfl) ?_
        refine v_iconst (v := (-1)) dX6_takeCondition_143 (by decide) ?_
        refine v_icmp_eq (tgt := 151) dX6_takeCondition_144 (by decide) (fun c_144 => ?_) (fun c_144 => ?_)
        · refine v_iconst (v := 0) dX6_takeCondition_151 (by decide) ?_
          exact v_iret rfl dX6_takeCondition_152 (Nat.le_of_ble_eq_true rfl) (Nat.le_of_ble_eq_true rfl) rfl (by
                rcases e1 with ⟨r1, r2, rfl⟩ | ⟨r1, r2, r3⟩
                · have hB : (w_is n tp (mk_5 101 110 100 0 0) j ∧ x6 = -1 ∧ nI kd = 7) := ⟨by rw [← ww_end]; exact r2, c_117, (k_end kd hkd).mp c_109⟩
                  have hcd : (cd_w n tp (nI kd) x4 x5 x6 j) = 3 := cd_3.mpr hB
                  have hc0 : ¬ (cd_w n tp (nI kd) x4 x5 x6 j) = 0 := by rw [hcd]; decide
                  rcases e2 with ⟨s1, s2, s3⟩ | ⟨s1, s2, s3⟩
                  · first
                      | (have c9 : ¬ y2 = -1 := c_144; refine ⟨rfl, 1, rfl, Or.inl ⟨rfl, hc0, s2, ?_⟩⟩; rw [hcd, ← s1]; subst s3; exact Hw2.put X)
                      | (have c9 : y2 = -1 := c_144; exact absurd (s1.symm.trans c9) (w_nvm s2.1))
                  · first
                      | (have c9 : ¬ y2 = -1 := c_144; exact absurd s1 c9)
                      | (have c9 : y2 = -1 := c_144; subst s3; exact ⟨rfl, 0, rfl, Or.inr (Or.inr ⟨rfl, hc0, s2, _, _, _, Hw2.put X⟩)⟩)
                · exact absurd r1 c_126)
        · refine v_iconst (v := 1) dX6_takeCondition_147 (by decide) ?_
          refine v_goto (tgt := 152) dX6_takeCondition_148 (by decide) ?_
          exact v_iret rfl dX6_takeCondition_152 (Nat.le_of_ble_eq_true rfl) (Nat.le_of_ble_eq_true rfl) rfl (by
                rcases e1 with ⟨r1, r2, rfl⟩ | ⟨r1, r2, r3⟩
                · have hB : (w_is n tp (mk_5 101 110 100 0 0) j ∧ x6 = -1 ∧ nI kd = 7) := ⟨by rw [← ww_end]; exact r2, c_117, (k_end kd hkd).mp c_109⟩
                  have hcd : (cd_w n tp (nI kd) x4 x5 x6 j) = 3 := cd_3.mpr hB
                  have hc0 : ¬ (cd_w n tp (nI kd) x4 x5 x6 j) = 0 := by rw [hcd]; decide
                  rcases e2 with ⟨s1, s2, s3⟩ | ⟨s1, s2, s3⟩
                  · first
                      | (have c9 : ¬ y2 = -1 := c_144; refine ⟨rfl, 1, rfl, Or.inl ⟨rfl, hc0, s2, ?_⟩⟩; rw [hcd, ← s1]; subst s3; exact Hw2.put X)
                      | (have c9 : y2 = -1 := c_144; exact absurd (s1.symm.trans c9) (w_nvm s2.1))
                  · first
                      | (have c9 : ¬ y2 = -1 := c_144; exact absurd s1 c9)
                      | (have c9 : y2 = -1 := c_144; subst s3; exact ⟨rfl, 0, rfl, Or.inr (Or.inr ⟨rfl, hc0, s2, _, _, _, Hw2.put X⟩)⟩)
                · exact absurd r1 c_126)

set_option maxHeartbeats 4000000 in
set_option maxRecDepth 100000 in
theorem t_k51 (G : sv_G) (h0 : sv_h) (z b n : Nat) (tp : Nat → Int32) (k : Int32) (A d : Nat) (X : cx_ G b n tp h0 A d) (j : Nat) (n0 : Int64) (kd : Nat) (x1 x2 x3 x4 x5 x6 : Int32) (h : sv_h) (Hw : cw_ G b n tp k A d h0 h j n0 kd x1 x2 x3 x4 x5 x6) (hkd : kd < 11) (n1 : ¬ (w_is n tp (mk_5 114 117 110 0 0) j ∧ x4 = -1 ∧ (nI kd = 0 ∨ nI kd = 1 ∨ nI kd = 7 ∨ nI kd = 9 ∨ nI kd = 10))) : V G mX6_takeCondition (sv_MQ G mX6_takeCondition (fun v h1 z1 => z1 = z ∧ ∃ w0 : Int32, v = some (.int w0) ∧ ((w0 = 1 ∧ ¬ (cd_w n tp (nI kd) x4 x5 x6 j) = 0 ∧ w_nu n tp 1000000000 (j + 1) ∧ cw_ G b n tp k A d h0 h1 (j + 2) n0 kd x1 x2 x3 (cd_x (cd_w n tp (nI kd) x4 x5 x6 j) 1 x4 (w_nv n tp (j + 1))) (cd_x (cd_w n tp (nI kd) x4 x5 x6 j) 2 x5 (w_nv n tp (j + 1))) (cd_x (cd_w n tp (nI kd) x4 x5 x6 j) 3 x6 (w_nv n tp (j + 1)))) ∨ (w0 = 0 ∧ (cd_w n tp (nI kd) x4 x5 x6 j) = 0 ∧ cw_ G b n tp k A d h0 h1 j n0 kd x1 x2 x3 x4 x5 x6) ∨ (w0 = 0 ∧ ¬ (cd_w n tp (nI kd) x4 x5 x6 j) = 0 ∧ ¬ w_nu n tp 1000000000 (j + 1) ∧ ∃ y4 y5 y6, cw_ G b n tp k A d h0 h1 (j + 1) n0 kd x1 x2 x3 y4 y5 y6)))) 51 [(0, .ref (b + 10)), (1, .ref (A + 1 + d))] [] h z 0 0 := by
  obtain ⟨hrd, hru, fr⟩ := id Hw
  obtain ⟨hn, hok, t1, ⟨f, t2, htp⟩, hA, hd⟩ := id X
  have ht1 := (fr (b + 8) (by omega) (by omega)).trans t1
  have ht2 : ab_I G h (b + 9) 600 f := (fr (b + 9) (by omega) (by omega)).trans t2
  refine v_aload_n dX6_takeCondition_51 rfl 1 rfl ?_
  refine v_getf 1 (ci := 5) (C := RX7) (T := TX7) (N := 8) rfl iwX6_takeCondition_X7 (Nat.le_of_ble_eq_true rfl) (by decide +kernel) dX6_takeCondition_52 (by repeat (first | with_reducible assumption | (with_reducible refine sv_us.trans ?_; exact rfl) | with_reducible refine (sv_un (by omega)).trans ?_)) (by exact rfl) ?_
  refine v_kint (q := ("RuleDeck$Kind", "takesVolt", "Z", [0, 0, 0, 0, 0, 0, 0, 1, 1, 0, 0])) hkd (by decide) rfl (by decide +kernel) dX6_takeCondition_55 ?_
  refine v_if_eq (tgt := 102) dX6_takeCondition_58 (by decide) (fun c_58 => ?_) (fun c_58 => ?_)
  · have hN : ¬ (w_is n tp (mk_5 118 111 108 116 0) j ∧ x5 = -1 ∧ (nI kd = 7 ∨ nI kd = 8)) := (by
          rintro ⟨r1, r2, r3⟩
          first
            | exact absurd r2 c_66
            | exact absurd c_58 ((k_volt kd hkd).mpr r3)
            | (rcases e1 with ⟨s1, s2, s3⟩ | ⟨s1, s2, s3⟩
               · exact absurd (s1.symm.trans c_75) (by decide)
               · exact s2 (by rw [ww_volt]; exact r1)))
    first
      | (have c9 := e1; rcases c9 with ⟨s1, s2, s3⟩ | ⟨s1, s2, s3⟩
         · exact absurd (s1.symm.trans c_75) (by decide)
         · rw [s3] at Hw1; exact t_k102 G h0 _ b n tp k A d X j n0 kd x1 x2 x3 x4 x5 x6 _ Hw1 hkd n1 hN)
      | exact t_k102 G h0 _ b n tp k A d X j n0 kd x1 x2 x3 x4 x5 x6 _ Hw hkd n1 hN
  · refine v_aload_n dX6_takeCondition_61 rfl 1 rfl ?_
    refine v_getf 6 (ci := 5) (C := RX7) (T := TX7) (N := 8) rfl iwX6_takeCondition_X7 (Nat.le_of_ble_eq_true rfl) (by decide +kernel) dX6_takeCondition_62 (by repeat (first | with_reducible assumption | (with_reducible refine sv_us.trans ?_; exact rfl) | with_reducible refine (sv_un (by omega)).trans ?_)) (by exact rfl) ?_
    refine v_iconst (v := (-1)) dX6_takeCondition_65 (by decide) ?_
    refine v_icmp_ne (tgt := 102) dX6_takeCondition_66 (by decide) (fun c_66 => ?_) (fun c_66 => ?_)
    · have hN : ¬ (w_is n tp (mk_5 118 111 108 116 0) j ∧ x5 = -1 ∧ (nI kd = 7 ∨ nI kd = 8)) := (by
            rintro ⟨r1, r2, r3⟩
            first
              | exact absurd r2 c_66
              | exact absurd c_58 ((k_volt kd hkd).mpr r3)
              | (rcases e1 with ⟨s1, s2, s3⟩ | ⟨s1, s2, s3⟩
                 · exact absurd (s1.symm.trans c_75) (by decide)
                 · exact s2 (by rw [ww_volt]; exact r1)))
      first
        | (have c9 := e1; rcases c9 with ⟨s1, s2, s3⟩ | ⟨s1, s2, s3⟩
           · exact absurd (s1.symm.trans c_75) (by decide)
           · rw [s3] at Hw1; exact t_k102 G h0 _ b n tp k A d X j n0 kd x1 x2 x3 x4 x5 x6 _ Hw1 hkd n1 hN)
        | exact t_k102 G h0 _ b n tp k A d X j n0 kd x1 x2 x3 x4 x5 x6 _ Hw hkd n1 hN
    · refine v_aload_n dX6_takeCondition_69 rfl 0 rfl ?_
      refine v_kldc (q := (140, "volt", 32)) (by decide) rfl rfl dX6_takeCondition_70 ?_
      refine v_callVq (M' := mX6_takeWord) (n := 1) (As := [_]) (ci := 4) (r := (RX6, TX6, 9)) gX6_takeCondition_X6_takeWord rfl (by decide +kernel) ⟨(Nat.le_of_ble_eq_true rfl), (Nat.le_of_ble_eq_true rfl)⟩ rfl rfl dX6_takeCondition_72 rfl ⟨(Nat.le_of_ble_eq_true rfl), (Nat.le_of_ble_eq_true rfl)⟩ (Nat.le_of_ble_eq_true rfl) (by repeat (first | with_reducible assumption | (with_reducible refine sv_us.trans ?_; exact rfl) | with_reducible refine (sv_un (by omega)).trans ?_)) rfl (c_wordW G h0 _ b n tp k A d X j n0 kd x1 x2 x3 x4 x5 x6 h Hw 12 (by decide)) (fun v h1 z1 hq => ?_)
      obtain ⟨rfl, w0, j1, rfl, Hw1, e1⟩ := hq
      obtain ⟨hrd1, hru1, fr1⟩ := id Hw1
      have ht11 := (fr1 (b + 8) (by omega) (by omega)).trans t1
      have ht21 : ab_I G h1 (b + 9) 600 f := (fr1 (b + 9) (by omega) (by omega)).trans t2
      refine v_if_eq (tgt := 102) dX6_takeCondition_75 (by decide) (fun c_75 => ?_) (fun c_75 => ?_)
      · have hN : ¬ (w_is n tp (mk_5 118 111 108 116 0) j ∧ x5 = -1 ∧ (nI kd = 7 ∨ nI kd = 8)) := (by
              rintro ⟨r1, r2, r3⟩
              first
                | exact absurd r2 c_66
                | exact absurd c_58 ((k_volt kd hkd).mpr r3)
                | (rcases e1 with ⟨s1, s2, s3⟩ | ⟨s1, s2, s3⟩
                   · exact absurd (s1.symm.trans c_75) (by decide)
                   · exact s2 (by rw [ww_volt]; exact r1)))
        first
          | (have c9 := e1; rcases c9 with ⟨s1, s2, s3⟩ | ⟨s1, s2, s3⟩
             · exact absurd (s1.symm.trans c_75) (by decide)
             · rw [s3] at Hw1; exact t_k102 G h0 _ b n tp k A d X j n0 kd x1 x2 x3 x4 x5 x6 _ Hw1 hkd n1 hN)
          | exact t_k102 G h0 _ b n tp k A d X j n0 kd x1 x2 x3 x4 x5 x6 _ Hw hkd n1 hN
      · refine v_aload_n dX6_takeCondition_78 rfl 1 rfl ?_
        refine v_aload_n dX6_takeCondition_79 rfl 0 rfl ?_
        refine v_ldc (v := (1000000000)) (by decide +kernel) dX6_takeCondition_80 ?_
        refine v_callVq (M' := mX6_takeNumber) (n := 1) (As := [_]) (ci := 4) (r := (RX6, TX6, 9)) gX6_takeCondition_X6_takeNumber rfl (by decide +kernel) ⟨(Nat.le_of_ble_eq_true rfl), (Nat.le_of_ble_eq_true rfl)⟩ rfl rfl dX6_takeCondition_82 rfl ⟨(Nat.le_of_ble_eq_true rfl), (Nat.le_of_ble_eq_true rfl)⟩ (Nat.le_of_ble_eq_true rfl) (by repeat (first | with_reducible assumption | (with_reducible refine sv_us.trans ?_; exact rfl) | with_reducible refine (sv_un (by omega)).trans ?_)) rfl (c_numW G h0 _ b n tp k A d X j1 n0 kd x1 x2 x3 x4 x5 x6 _ Hw1 1000000000) (fun v h2 z2 hq => ?_)
        obtain ⟨rfl, y2, j2, rfl, Hw2, e2⟩ := hq
        obtain ⟨hrd2, hru2, fr2⟩ := id Hw2
        have ht12 := (fr2 (b + 8) (by omega) (by omega)).trans t1
        have ht22 : ab_I G h2 (b + 9) 600 f := (fr2 (b + 9) (by omega) (by omega)).trans t2
        refine v_putf 6 (fs' := [_, _, _, _, _, _, _, _]) (ci := 5) (C := RX7) (T := TX7) (N := 8) (ty := .int) rfl iwX6_takeCondition_X7 tyX7 tyX7_ok nmX7 (Nat.le_of_ble_eq_true rfl) (by decide +kernel) rfl rfl dX6_takeCondition_85 rfl rfl (by repeat (first | with_reducible assumption | (with_reducible refine sv_us.trans ?_; exact rfl) | with_reducible refine (sv_un (by omega)).trans ?_)) (Nat.le_of_ble_eq_true rfl) rfl ?_
        refine v_aload_n dX6_takeCondition_88 rfl 1 rfl ?_
        refine v_getf 6 (ci := 5) (C := RX7) (T := TX7) (N := 8) rfl iwX6_takeCondition_X7 (Nat.le_of_ble_eq_true rfl) (by decide +kernel) dX6_takeCondition_89 (by repeat (first | with_reducible assumption | (with_reducible refine sv_us.trans ?_; exact rfl) | with_reducible refine (sv_un (by omega)).trans ?_)) (by exact rfl) ?_
        refine v_iconst (v := (-1)) dX6_takeCondition_92 (by decide) ?_
        refine v_icmp_eq (tgt := 100) dX6_takeCondition_93 (by decide) (fun c_93 => ?_) (fun c_93 => ?_)
        · refine v_iconst (v := 0) dX6_takeCondition_100 (by decide) ?_
          exact v_iret rfl dX6_takeCondition_101 (Nat.le_of_ble_eq_true rfl) (Nat.le_of_ble_eq_true rfl) rfl (by
                rcases e1 with ⟨r1, r2, rfl⟩ | ⟨r1, r2, r3⟩
                · have hB : (w_is n tp (mk_5 118 111 108 116 0) j ∧ x5 = -1 ∧ (nI kd = 7 ∨ nI kd = 8)) := ⟨by rw [← ww_volt]; exact r2, c_66, (k_volt kd hkd).mp c_58⟩
                  have hcd : (cd_w n tp (nI kd) x4 x5 x6 j) = 2 := cd_2.mpr hB
                  have hc0 : ¬ (cd_w n tp (nI kd) x4 x5 x6 j) = 0 := by rw [hcd]; decide
                  rcases e2 with ⟨s1, s2, s3⟩ | ⟨s1, s2, s3⟩
                  · first
                      | (have c9 : ¬ y2 = -1 := c_93; refine ⟨rfl, 1, rfl, Or.inl ⟨rfl, hc0, s2, ?_⟩⟩; rw [hcd, ← s1]; subst s3; exact Hw2.put X)
                      | (have c9 : y2 = -1 := c_93; exact absurd (s1.symm.trans c9) (w_nvm s2.1))
                  · first
                      | (have c9 : ¬ y2 = -1 := c_93; exact absurd s1 c9)
                      | (have c9 : y2 = -1 := c_93; subst s3; exact ⟨rfl, 0, rfl, Or.inr (Or.inr ⟨rfl, hc0, s2, _, _, _, Hw2.put X⟩)⟩)
                · exact absurd r1 c_75)
        · refine v_iconst (v := 1) dX6_takeCondition_96 (by decide) ?_
          refine v_goto (tgt := 101) dX6_takeCondition_97 (by decide) ?_
          exact v_iret rfl dX6_takeCondition_101 (Nat.le_of_ble_eq_true rfl) (Nat.le_of_ble_eq_true rfl) rfl (by
                rcases e1 with ⟨r1, r2, rfl⟩ | ⟨r1, r2, r3⟩
                · have hB : (w_is n tp (mk_5 118 111 108 116 0) j ∧ x5 = -1 ∧ (nI kd = 7 ∨ nI kd = 8)) := ⟨by rw [← ww_volt]; exact r2, c_66, (k_volt kd hkd).mp c_58⟩
                  have hcd : (cd_w n tp (nI kd) x4 x5 x6 j) = 2 := cd_2.mpr hB
                  have hc0 : ¬ (cd_w n tp (nI kd) x4 x5 x6 j) = 0 := by rw [hcd]; decide
                  rcases e2 with ⟨s1, s2, s3⟩ | ⟨s1, s2, s3⟩
                  · first
                      | (have c9 : ¬ y2 = -1 := c_93; refine ⟨rfl, 1, rfl, Or.inl ⟨rfl, hc0, s2, ?_⟩⟩; rw [hcd, ← s1]; subst s3; exact Hw2.put X)
                      | (have c9 : y2 = -1 := c_93; exact absurd (s1.symm.trans c9) (w_nvm s2.1))
                  · first
                      | (have c9 : ¬ y2 = -1 := c_93; exact absurd s1 c9)
                      | (have c9 : y2 = -1 := c_93; subst s3; exact ⟨rfl, 0, rfl, Or.inr (Or.inr ⟨rfl, hc0, s2, _, _, _, Hw2.put X⟩)⟩)
                · exact absurd r1 c_75)

set_option maxHeartbeats 4000000 in
set_option maxRecDepth 100000 in
theorem c_condW (G : sv_G) (h0 : sv_h) (z b n : Nat) (tp : Nat → Int32) (k : Int32) (A d : Nat) (X : cx_ G b n tp h0 A d) (j : Nat) (n0 : Int64) (kd : Nat) (x1 x2 x3 x4 x5 x6 : Int32) (h : sv_h) (Hw : cw_ G b n tp k A d h0 h j n0 kd x1 x2 x3 x4 x5 x6) (hkd : kd < 11) : CT G mX6_takeCondition [.ref (b + 10), .ref (A + 1 + d)] h z (fun v h1 z1 => z1 = z ∧ ∃ w0 : Int32, v = some (.int w0) ∧ ((w0 = 1 ∧ ¬ (cd_w n tp (nI kd) x4 x5 x6 j) = 0 ∧ w_nu n tp 1000000000 (j + 1) ∧ cw_ G b n tp k A d h0 h1 (j + 2) n0 kd x1 x2 x3 (cd_x (cd_w n tp (nI kd) x4 x5 x6 j) 1 x4 (w_nv n tp (j + 1))) (cd_x (cd_w n tp (nI kd) x4 x5 x6 j) 2 x5 (w_nv n tp (j + 1))) (cd_x (cd_w n tp (nI kd) x4 x5 x6 j) 3 x6 (w_nv n tp (j + 1)))) ∨ (w0 = 0 ∧ (cd_w n tp (nI kd) x4 x5 x6 j) = 0 ∧ cw_ G b n tp k A d h0 h1 j n0 kd x1 x2 x3 x4 x5 x6) ∨ (w0 = 0 ∧ ¬ (cd_w n tp (nI kd) x4 x5 x6 j) = 0 ∧ ¬ w_nu n tp 1000000000 (j + 1) ∧ ∃ y4 y5 y6, cw_ G b n tp k A d h0 h1 (j + 1) n0 kd x1 x2 x3 y4 y5 y6))) := by
  refine CT.of (by decide +kernel) rfl rfl (Nat.le_of_ble_eq_true rfl) ?_
  obtain ⟨hrd, hru, fr⟩ := id Hw
  obtain ⟨hn, hok, t1, ⟨f, t2, htp⟩, hA, hd⟩ := id X
  have ht1 := (fr (b + 8) (by omega) (by omega)).trans t1
  have ht2 : ab_I G h (b + 9) 600 f := (fr (b + 9) (by omega) (by omega)).trans t2
  refine v_aload_n dX6_takeCondition_0 rfl 1 rfl ?_
  refine v_getf 1 (ci := 5) (C := RX7) (T := TX7) (N := 8) rfl iwX6_takeCondition_X7 (Nat.le_of_ble_eq_true rfl) (by decide +kernel) dX6_takeCondition_1 (by repeat (first | with_reducible assumption | (with_reducible refine sv_us.trans ?_; exact rfl) | with_reducible refine (sv_un (by omega)).trans ?_)) (by exact rfl) ?_
  refine v_kint (q := ("RuleDeck$Kind", "takesRun", "Z", [1, 1, 0, 0, 0, 0, 0, 1, 0, 1, 1])) hkd (by decide) rfl (by decide +kernel) dX6_takeCondition_4 ?_
  refine v_if_eq (tgt := 51) dX6_takeCondition_7 (by decide) (fun c_7 => ?_) (fun c_7 => ?_)
  · have hN : ¬ (w_is n tp (mk_5 114 117 110 0 0) j ∧ x4 = -1 ∧ (nI kd = 0 ∨ nI kd = 1 ∨ nI kd = 7 ∨ nI kd = 9 ∨ nI kd = 10)) := (by
          rintro ⟨r1, r2, r3⟩
          first
            | exact absurd r2 c_15
            | exact absurd c_7 ((k_run kd hkd).mpr r3)
            | (rcases e1 with ⟨s1, s2, s3⟩ | ⟨s1, s2, s3⟩
               · exact absurd (s1.symm.trans c_24) (by decide)
               · exact s2 (by rw [ww_run]; exact r1)))
    first
      | (have c9 := e1; rcases c9 with ⟨s1, s2, s3⟩ | ⟨s1, s2, s3⟩
         · exact absurd (s1.symm.trans c_24) (by decide)
         · rw [s3] at Hw1; exact t_k51 G h0 _ b n tp k A d X j n0 kd x1 x2 x3 x4 x5 x6 _ Hw1 hkd hN)
      | exact t_k51 G h0 _ b n tp k A d X j n0 kd x1 x2 x3 x4 x5 x6 _ Hw hkd hN
  · refine v_aload_n dX6_takeCondition_10 rfl 1 rfl ?_
    refine v_getf 5 (ci := 5) (C := RX7) (T := TX7) (N := 8) rfl iwX6_takeCondition_X7 (Nat.le_of_ble_eq_true rfl) (by decide +kernel) dX6_takeCondition_11 (by repeat (first | with_reducible assumption | (with_reducible refine sv_us.trans ?_; exact rfl) | with_reducible refine (sv_un (by omega)).trans ?_)) (by exact rfl) ?_
    refine v_iconst (v := (-1)) dX6_takeCondition_14 (by decide) ?_
    refine v_icmp_ne (tgt := 51) dX6_takeCondition_15 (by decide) (fun c_15 => ?_) (fun c_15 => ?_)
    · have hN : ¬ (w_is n tp (mk_5 114 117 110 0 0) j ∧ x4 = -1 ∧ (nI kd = 0 ∨ nI kd = 1 ∨ nI kd = 7 ∨ nI kd = 9 ∨ nI kd = 10)) := (by
            rintro ⟨r1, r2, r3⟩
            first
              | exact absurd r2 c_15
              | exact absurd c_7 ((k_run kd hkd).mpr r3)
              | (rcases e1 with ⟨s1, s2, s3⟩ | ⟨s1, s2, s3⟩
                 · exact absurd (s1.symm.trans c_24) (by decide)
                 · exact s2 (by rw [ww_run]; exact r1)))
      first
        | (have c9 := e1; rcases c9 with ⟨s1, s2, s3⟩ | ⟨s1, s2, s3⟩
           · exact absurd (s1.symm.trans c_24) (by decide)
           · rw [s3] at Hw1; exact t_k51 G h0 _ b n tp k A d X j n0 kd x1 x2 x3 x4 x5 x6 _ Hw1 hkd hN)
        | exact t_k51 G h0 _ b n tp k A d X j n0 kd x1 x2 x3 x4 x5 x6 _ Hw hkd hN
    · refine v_aload_n dX6_takeCondition_18 rfl 0 rfl ?_
      refine v_kldc (q := (132, "run", 31)) (by decide) rfl rfl dX6_takeCondition_19 ?_
      refine v_callVq (M' := mX6_takeWord) (n := 1) (As := [_]) (ci := 4) (r := (RX6, TX6, 9)) gX6_takeCondition_X6_takeWord rfl (by decide +kernel) ⟨(Nat.le_of_ble_eq_true rfl), (Nat.le_of_ble_eq_true rfl)⟩ rfl rfl dX6_takeCondition_21 rfl ⟨(Nat.le_of_ble_eq_true rfl), (Nat.le_of_ble_eq_true rfl)⟩ (Nat.le_of_ble_eq_true rfl) (by repeat (first | with_reducible assumption | (with_reducible refine sv_us.trans ?_; exact rfl) | with_reducible refine (sv_un (by omega)).trans ?_)) rfl (c_wordW G h0 _ b n tp k A d X j n0 kd x1 x2 x3 x4 x5 x6 h Hw 11 (by decide)) (fun v h1 z1 hq => ?_)
      obtain ⟨rfl, w0, j1, rfl, Hw1, e1⟩ := hq
      obtain ⟨hrd1, hru1, fr1⟩ := id Hw1
      have ht11 := (fr1 (b + 8) (by omega) (by omega)).trans t1
      have ht21 : ab_I G h1 (b + 9) 600 f := (fr1 (b + 9) (by omega) (by omega)).trans t2
      refine v_if_eq (tgt := 51) dX6_takeCondition_24 (by decide) (fun c_24 => ?_) (fun c_24 => ?_)
      · have hN : ¬ (w_is n tp (mk_5 114 117 110 0 0) j ∧ x4 = -1 ∧ (nI kd = 0 ∨ nI kd = 1 ∨ nI kd = 7 ∨ nI kd = 9 ∨ nI kd = 10)) := (by
              rintro ⟨r1, r2, r3⟩
              first
                | exact absurd r2 c_15
                | exact absurd c_7 ((k_run kd hkd).mpr r3)
                | (rcases e1 with ⟨s1, s2, s3⟩ | ⟨s1, s2, s3⟩
                   · exact absurd (s1.symm.trans c_24) (by decide)
                   · exact s2 (by rw [ww_run]; exact r1)))
        first
          | (have c9 := e1; rcases c9 with ⟨s1, s2, s3⟩ | ⟨s1, s2, s3⟩
             · exact absurd (s1.symm.trans c_24) (by decide)
             · rw [s3] at Hw1; exact t_k51 G h0 _ b n tp k A d X j n0 kd x1 x2 x3 x4 x5 x6 _ Hw1 hkd hN)
          | exact t_k51 G h0 _ b n tp k A d X j n0 kd x1 x2 x3 x4 x5 x6 _ Hw hkd hN
      · refine v_aload_n dX6_takeCondition_27 rfl 1 rfl ?_
        refine v_aload_n dX6_takeCondition_28 rfl 0 rfl ?_
        refine v_ldc (v := (1000000000)) (by decide +kernel) dX6_takeCondition_29 ?_
        refine v_callVq (M' := mX6_takeNumber) (n := 1) (As := [_]) (ci := 4) (r := (RX6, TX6, 9)) gX6_takeCondition_X6_takeNumber rfl (by decide +kernel) ⟨(Nat.le_of_ble_eq_true rfl), (Nat.le_of_ble_eq_true rfl)⟩ rfl rfl dX6_takeCondition_31 rfl ⟨(Nat.le_of_ble_eq_true rfl), (Nat.le_of_ble_eq_true rfl)⟩ (Nat.le_of_ble_eq_true rfl) (by repeat (first | with_reducible assumption | (with_reducible refine sv_us.trans ?_; exact rfl) | with_reducible refine (sv_un (by omega)).trans ?_)) rfl (c_numW G h0 _ b n tp k A d X j1 n0 kd x1 x2 x3 x4 x5 x6 _ Hw1 1000000000) (fun v h2 z2 hq => ?_)
        obtain ⟨rfl, y2, j2, rfl, Hw2, e2⟩ := hq
        obtain ⟨hrd2, hru2, fr2⟩ := id Hw2
        have ht12 := (fr2 (b + 8) (by omega) (by omega)).trans t1
        have ht22 : ab_I G h2 (b + 9) 600 f := (fr2 (b + 9) (by omega) (by omega)).trans t2
        refine v_putf 5 (fs' := [_, _, _, _, _, _, _, _]) (ci := 5) (C := RX7) (T := TX7) (N := 8) (ty := .int) rfl iwX6_takeCondition_X7 tyX7 tyX7_ok nmX7 (Nat.le_of_ble_eq_true rfl) (by decide +kernel) rfl rfl dX6_takeCondition_34 rfl rfl (by repeat (first | with_reducible assumption | (with_reducible refine sv_us.trans ?_; exact rfl) | with_reducible refine (sv_un (by omega)).trans ?_)) (Nat.le_of_ble_eq_true rfl) rfl ?_
        refine v_aload_n dX6_takeCondition_37 rfl 1 rfl ?_
        refine v_getf 5 (ci := 5) (C := RX7) (T := TX7) (N := 8) rfl iwX6_takeCondition_X7 (Nat.le_of_ble_eq_true rfl) (by decide +kernel) dX6_takeCondition_38 (by repeat (first | with_reducible assumption | (with_reducible refine sv_us.trans ?_; exact rfl) | with_reducible refine (sv_un (by omega)).trans ?_)) (by exact rfl) ?_
        refine v_iconst (v := (-1)) dX6_takeCondition_41 (by decide) ?_
        refine v_icmp_eq (tgt := 49) dX6_takeCondition_42 (by decide) (fun c_42 => ?_) (fun c_42 => ?_)
        · refine v_iconst (v := 0) dX6_takeCondition_49 (by decide) ?_
          exact v_iret rfl dX6_takeCondition_50 (Nat.le_of_ble_eq_true rfl) (Nat.le_of_ble_eq_true rfl) rfl (by
                rcases e1 with ⟨r1, r2, rfl⟩ | ⟨r1, r2, r3⟩
                · have hB : (w_is n tp (mk_5 114 117 110 0 0) j ∧ x4 = -1 ∧ (nI kd = 0 ∨ nI kd = 1 ∨ nI kd = 7 ∨ nI kd = 9 ∨ nI kd = 10)) := ⟨by rw [← ww_run]; exact r2, c_15, (k_run kd hkd).mp c_7⟩
                  have hcd : (cd_w n tp (nI kd) x4 x5 x6 j) = 1 := cd_1.mpr hB
                  have hc0 : ¬ (cd_w n tp (nI kd) x4 x5 x6 j) = 0 := by rw [hcd]; decide
                  rcases e2 with ⟨s1, s2, s3⟩ | ⟨s1, s2, s3⟩
                  · first
                      | (have c9 : ¬ y2 = -1 := c_42; refine ⟨rfl, 1, rfl, Or.inl ⟨rfl, hc0, s2, ?_⟩⟩; rw [hcd, ← s1]; subst s3; exact Hw2.put X)
                      | (have c9 : y2 = -1 := c_42; exact absurd (s1.symm.trans c9) (w_nvm s2.1))
                  · first
                      | (have c9 : ¬ y2 = -1 := c_42; exact absurd s1 c9)
                      | (have c9 : y2 = -1 := c_42; subst s3; exact ⟨rfl, 0, rfl, Or.inr (Or.inr ⟨rfl, hc0, s2, _, _, _, Hw2.put X⟩)⟩)
                · exact absurd r1 c_24)
        · refine v_iconst (v := 1) dX6_takeCondition_45 (by decide) ?_
          refine v_goto (tgt := 50) dX6_takeCondition_46 (by decide) ?_
          exact v_iret rfl dX6_takeCondition_50 (Nat.le_of_ble_eq_true rfl) (Nat.le_of_ble_eq_true rfl) rfl (by
                rcases e1 with ⟨r1, r2, rfl⟩ | ⟨r1, r2, r3⟩
                · have hB : (w_is n tp (mk_5 114 117 110 0 0) j ∧ x4 = -1 ∧ (nI kd = 0 ∨ nI kd = 1 ∨ nI kd = 7 ∨ nI kd = 9 ∨ nI kd = 10)) := ⟨by rw [← ww_run]; exact r2, c_15, (k_run kd hkd).mp c_7⟩
                  have hcd : (cd_w n tp (nI kd) x4 x5 x6 j) = 1 := cd_1.mpr hB
                  have hc0 : ¬ (cd_w n tp (nI kd) x4 x5 x6 j) = 0 := by rw [hcd]; decide
                  rcases e2 with ⟨s1, s2, s3⟩ | ⟨s1, s2, s3⟩
                  · first
                      | (have c9 : ¬ y2 = -1 := c_42; refine ⟨rfl, 1, rfl, Or.inl ⟨rfl, hc0, s2, ?_⟩⟩; rw [hcd, ← s1]; subst s3; exact Hw2.put X)
                      | (have c9 : y2 = -1 := c_42; exact absurd (s1.symm.trans c9) (w_nvm s2.1))
                  · first
                      | (have c9 : ¬ y2 = -1 := c_42; exact absurd s1 c9)
                      | (have c9 : y2 = -1 := c_42; subst s3; exact ⟨rfl, 0, rfl, Or.inr (Or.inr ⟨rfl, hc0, s2, _, _, _, Hw2.put X⟩)⟩)
                · exact absurd r1 c_24)

theorem cd_n0 {n : Nat} {tp : Nat → Int32} {k x4 x5 x6 : Int32} {j : Nat} (h : cd_n x4 x5 x6 = 0) : cd_w n tp k x4 x5 x6 j = 0 := by
  unfold cd_n at h
  have a4 : ¬ x4 = -1 := fun e => by rw [if_pos e] at h; omega
  have a5 : ¬ x5 = -1 := fun e => by rw [if_pos e] at h; omega
  have a6 : ¬ x6 = -1 := fun e => by rw [if_pos e] at h; omega
  exact cd_0.mpr ⟨fun q => a4 q.2.1, fun q => a5 q.2.1, fun q => a6 q.2.1⟩
theorem cd_s {n : Nat} {tp : Nat → Int32} {k x4 x5 x6 : Int32} {j : Nat} (h : ¬ wS n tp j = 2) : cd_w n tp k x4 x5 x6 j = 0 := cd_0.mpr ⟨fun q => h q.1.1, fun q => h q.1.1, fun q => h q.1.1⟩
theorem v_mq {G : sv_G} {M : sv_M} {Q1 Q2 : Option Value → sv_h → Nat → Prop} {pc : Nat} {L : List (Nat × Value)} {S : List Value} {h : sv_h} {z ce sl : Nat} (hq : ∀ v h1 z1, Q1 v h1 z1 → Q2 v h1 z1) (k : V G M (sv_MQ G M Q1) pc L S h z ce sl) : V G M (sv_MQ G M Q2) pc L S h z ce sl := by
  intro p e s m args below meth c H locs ls C K Z hS hH hl T hT X
  obtain ⟨t, st, o, r1, r2, ⟨⟨v, h1, z1, q1, q2, q3⟩, q4⟩, r4⟩ := k p e s m args below meth c H locs ls C K Z hS hH hl T hT X
  exact ⟨t, st, o, r1, r2, ⟨⟨v, h1, z1, q1, hq _ _ _ q2, q3⟩, q4⟩, r4⟩
set_option maxHeartbeats 4000000 in
set_option maxRecDepth 100000 in
theorem l_conds (G : sv_G) (h0 : sv_h) (z b n : Nat) (tp : Nat → Int32) (k : Int32) (A d : Nat) (X : cx_ G b n tp h0 A d) (n0 : Int64) (kd : Nat) (x1 x2 x3 : Int32) (hkd : kd < 11) : ∀ (u t j : Nat) (x4 x5 x6 : Int32) (h : sv_h), cw_ G b n tp k A d h0 h j n0 kd x1 x2 x3 x4 x5 x6 → t + u = 3 → cd_n x4 x5 x6 = u → V G mX6_takeConditions (sv_MQ G mX6_takeConditions (fun v h1 z1 => z1 = z ∧ ∃ (w0 : Int32) (j1 : Nat) (y4 y5 y6 : Int32), v = some (.int w0) ∧ cw_ G b n tp k A d h0 h1 j1 n0 kd x1 x2 x3 y4 y5 y6 ∧ ((w0 = 1 ∧ rd_cs n tp (nI kd) (u + 1) x4 x5 x6 j = .inr (j1, y4, y5, y6)) ∨ (w0 = 0 ∧ rd_cs n tp (nI kd) (u + 1) x4 x5 x6 j = .inl j1)))) 2 [(2, .int (nI t)), (0, .ref (b + 10)), (1, .ref (A + 1 + d))] [] h z 0 0 := by
  intro u
  induction u with
  | zero =>
    intro t j x4 x5 x6 h Hw htu hcn
    obtain ⟨hrd, hru, fr⟩ := id Hw
    obtain ⟨hn, hok, t1, ⟨f, t2, htp⟩, hA, hd⟩ := id X
    have ht1 := (fr (b + 8) (by omega) (by omega)).trans t1
    have ht2 : ab_I G h (b + 9) 600 f := (fr (b + 9) (by omega) (by omega)).trans t2
    refine v_iload_n dX6_takeConditions_2 rfl 0 rfl ?_
    refine v_iconst (v := 3) dX6_takeConditions_3 (by decide) ?_
    refine v_icmp_ge (tgt := 31) dX6_takeConditions_4 (by decide) (fun c_4 => ?_) (fun c_4 => ?_)
    · refine v_aload_n dX6_takeConditions_31 rfl 1 rfl ?_
      refine v_bipush (v := 59) dX6_takeConditions_32 (by decide) ?_
      refine v_callVq (M' := mX6_takeSign) (n := 1) (As := [_]) (ci := 4) (r := (RX6, TX6, 9)) gX6_takeConditions_X6_takeSign rfl (by decide +kernel) ⟨(Nat.le_of_ble_eq_true rfl), (Nat.le_of_ble_eq_true rfl)⟩ rfl rfl dX6_takeConditions_34 rfl ⟨(Nat.le_of_ble_eq_true rfl), (Nat.le_of_ble_eq_true rfl)⟩ (Nat.le_of_ble_eq_true rfl) (by repeat (first | with_reducible assumption | (with_reducible refine sv_us.trans ?_; exact rfl) | with_reducible refine (sv_un (by omega)).trans ?_)) rfl (c_signW G h0 _ b n tp k A d X j n0 kd x1 x2 x3 x4 x5 x6 h Hw 59) (fun v h1 z1 hq => ?_)
      obtain ⟨rfl, w0, j1, rfl, Hw1, e1⟩ := hq
      exact v_iret rfl dX6_takeConditions_37 (Nat.le_of_ble_eq_true rfl) (Nat.le_of_ble_eq_true rfl) (by rcases e1 with ⟨r1, _⟩ | ⟨r1, _⟩ <;> rw [r1] <;> decide) (by
                have hz : cd_w n tp (nI kd) x4 x5 x6 j = 0 := cd_n0 hcn
                rcases e1 with ⟨r1, r2, r3⟩ | ⟨r1, r2, r3⟩
                · refine ⟨rfl, w0, j1, x4, x5, x6, rfl, Hw1, Or.inl ⟨r1, ?_⟩⟩
                  rw [rd_cs, if_pos r2, r3]
                · refine ⟨rfl, w0, j1, x4, x5, x6, rfl, Hw1, Or.inr ⟨r1, ?_⟩⟩
                  rw [rd_cs, if_neg r2, if_pos hz, r3])
    · exact absurd (nI_le (show 3 ≤ t by omega) (by omega)) c_4
  | succ u ih =>
    intro t j x4 x5 x6 h Hw htu hcn
    obtain ⟨hrd, hru, fr⟩ := id Hw
    obtain ⟨hn, hok, t1, ⟨f, t2, htp⟩, hA, hd⟩ := id X
    have ht1 := (fr (b + 8) (by omega) (by omega)).trans t1
    have ht2 : ab_I G h (b + 9) 600 f := (fr (b + 9) (by omega) (by omega)).trans t2
    refine v_iload_n dX6_takeConditions_2 rfl 0 rfl ?_
    refine v_iconst (v := 3) dX6_takeConditions_3 (by decide) ?_
    refine v_icmp_ge (tgt := 31) dX6_takeConditions_4 (by decide) (fun c_4 => ?_) (fun c_4 => ?_)
    · exact absurd c_4 (nI_ge (a := t) (b := 3) (by omega) (by decide))
    · refine v_aload_n dX6_takeConditions_7 rfl 1 rfl ?_
      refine v_getf 5 (ci := 4) (C := RX6) (T := TX6) (N := 9) rfl iwX6_takeConditions_X6 (Nat.le_of_ble_eq_true rfl) (by decide +kernel) dX6_takeConditions_8 (by repeat (first | with_reducible assumption | (with_reducible refine sv_us.trans ?_; exact rfl) | with_reducible refine (sv_un (by omega)).trans ?_)) (by exact rfl) ?_
      refine v_iconst (v := 2) dX6_takeConditions_11 (by decide) ?_
      refine v_icmp_ne (tgt := 31) dX6_takeConditions_12 (by decide) (fun c_12 => ?_) (fun c_12 => ?_)
      · refine v_aload_n dX6_takeConditions_31 rfl 1 rfl ?_
        refine v_bipush (v := 59) dX6_takeConditions_32 (by decide) ?_
        refine v_callVq (M' := mX6_takeSign) (n := 1) (As := [_]) (ci := 4) (r := (RX6, TX6, 9)) gX6_takeConditions_X6_takeSign rfl (by decide +kernel) ⟨(Nat.le_of_ble_eq_true rfl), (Nat.le_of_ble_eq_true rfl)⟩ rfl rfl dX6_takeConditions_34 rfl ⟨(Nat.le_of_ble_eq_true rfl), (Nat.le_of_ble_eq_true rfl)⟩ (Nat.le_of_ble_eq_true rfl) (by repeat (first | with_reducible assumption | (with_reducible refine sv_us.trans ?_; exact rfl) | with_reducible refine (sv_un (by omega)).trans ?_)) rfl (c_signW G h0 _ b n tp k A d X j n0 kd x1 x2 x3 x4 x5 x6 h Hw 59) (fun v h1 z1 hq => ?_)
        obtain ⟨rfl, w0, j1, rfl, Hw1, e1⟩ := hq
        exact v_iret rfl dX6_takeConditions_37 (Nat.le_of_ble_eq_true rfl) (Nat.le_of_ble_eq_true rfl) (by rcases e1 with ⟨r1, _⟩ | ⟨r1, _⟩ <;> rw [r1] <;> decide) (by
                  have hz : cd_w n tp (nI kd) x4 x5 x6 j = 0 := cd_s c_12
                  rcases e1 with ⟨r1, r2, r3⟩ | ⟨r1, r2, r3⟩
                  · refine ⟨rfl, w0, j1, x4, x5, x6, rfl, Hw1, Or.inl ⟨r1, ?_⟩⟩
                    rw [rd_cs, if_pos r2, r3]
                  · refine ⟨rfl, w0, j1, x4, x5, x6, rfl, Hw1, Or.inr ⟨r1, ?_⟩⟩
                    rw [rd_cs, if_neg r2, if_pos hz, r3])
      · refine v_aload_n dX6_takeConditions_15 rfl 1 rfl ?_
        refine v_aload_n dX6_takeConditions_16 rfl 2 rfl ?_
        refine v_callVq (M' := mX6_takeCondition) (n := 1) (As := [_]) (ci := 4) (r := (RX6, TX6, 9)) gX6_takeConditions_X6_takeCondition rfl (by decide +kernel) ⟨(Nat.le_of_ble_eq_true rfl), (Nat.le_of_ble_eq_true rfl)⟩ rfl rfl dX6_takeConditions_17 rfl ⟨(Nat.le_of_ble_eq_true rfl), (Nat.le_of_ble_eq_true rfl)⟩ (Nat.le_of_ble_eq_true rfl) (by repeat (first | with_reducible assumption | (with_reducible refine sv_us.trans ?_; exact rfl) | with_reducible refine (sv_un (by omega)).trans ?_)) rfl (c_condW G h0 _ b n tp k A d X j n0 kd x1 x2 x3 x4 x5 x6 h Hw hkd) (fun v h1 z1 hq => ?_)
        obtain ⟨rfl, w0, rfl, e1⟩ := hq
        refine v_if_ne (tgt := 25) dX6_takeConditions_20 (by decide) (fun c_20 => ?_) (fun c_20 => ?_)
        · refine v_iinc (j := 0) (L' := [(2, _), (0, _), (1, _)]) (v := nI (t + 1)) dX6_takeConditions_25 rfl (nI_1 _) (Nat.le_of_ble_eq_true rfl) rfl ?_
          refine v_goto (tgt := 2) dX6_takeConditions_28 (by decide) ?_
          have hs : ¬ w_sg n tp 59 j := fun q => absurd (c_12.symm.trans q.1) (by decide)
          refine v_sub (L' := [(2, _), (0, _), (1, _)]) [0, 1, 2] rfl ?_
          rcases e1 with ⟨r1, r2, r3, r4⟩ | ⟨r1, r2⟩ | ⟨r1, r2⟩
          · refine v_mq ?_ (ih (t + 1) (j + 2) _ _ _ _ r4 (by omega) (by have := cd_dec (n := n) (tp := tp) (k := nI kd) (x4 := x4) (x5 := x5) (x6 := x6) (j := j) (w_nv0 r3.1) r2; omega))
            rintro v h1 z1 ⟨q1, w9, j1, y4, y5, y6, q2, q3, q4⟩
            refine ⟨q1, w9, j1, y4, y5, y6, q2, q3, ?_⟩
            rw [rd_cs, if_neg hs, if_neg r2, if_pos r3]
            exact q4
          · exact absurd r1 c_20
          · exact absurd r1 c_20
        · refine v_iconst (v := 0) dX6_takeConditions_23 (by decide) ?_
          exact v_iret rfl dX6_takeConditions_24 (Nat.le_of_ble_eq_true rfl) (Nat.le_of_ble_eq_true rfl) rfl (by
                    have hs : ¬ w_sg n tp 59 j := fun q => absurd (c_12.symm.trans q.1) (by decide)
                    rcases e1 with ⟨r1, r2⟩ | ⟨r1, r2, r3⟩ | ⟨r1, r2, r3, y4, y5, y6, r4⟩
                    · exact absurd (r1.symm.trans c_20) (by decide)
                    · refine ⟨rfl, 0, j, x4, x5, x6, rfl, r3, Or.inr ⟨rfl, ?_⟩⟩
                      rw [rd_cs, if_neg hs, if_pos r2]
                    · refine ⟨rfl, 0, j + 1, y4, y5, y6, rfl, r4, Or.inr ⟨rfl, ?_⟩⟩
                      rw [rd_cs, if_neg hs, if_neg r2, if_neg r3])

set_option maxHeartbeats 4000000 in
set_option maxRecDepth 100000 in
theorem c_condsW (G : sv_G) (h0 : sv_h) (z b n : Nat) (tp : Nat → Int32) (k : Int32) (A d : Nat) (X : cx_ G b n tp h0 A d) (n0 : Int64) (kd : Nat) (x1 x2 x3 : Int32) (hkd : kd < 11) (j : Nat) (h : sv_h) (Hw : cw_ G b n tp k A d h0 h j n0 kd x1 x2 x3 (-1) (-1) (-1)) : CT G mX6_takeConditions [.ref (b + 10), .ref (A + 1 + d)] h z (fun v h1 z1 => z1 = z ∧ ∃ (w0 : Int32) (j1 : Nat) (y4 y5 y6 : Int32), v = some (.int w0) ∧ cw_ G b n tp k A d h0 h1 j1 n0 kd x1 x2 x3 y4 y5 y6 ∧ ((w0 = 1 ∧ rd_cs n tp (nI kd) 4 (-1) (-1) (-1) j = .inr (j1, y4, y5, y6)) ∨ (w0 = 0 ∧ rd_cs n tp (nI kd) 4 (-1) (-1) (-1) j = .inl j1))) := by
  refine CT.of (by decide +kernel) rfl rfl (Nat.le_of_ble_eq_true rfl) ?_
  refine v_iconst (v := 0) dX6_takeConditions_0 (by decide) ?_
  refine v_istore_n (L' := [(2, _), (0, _), (1, _)]) dX6_takeConditions_1 rfl (Nat.le_of_ble_eq_true rfl) rfl ?_
  refine v_sub (L' := [(2, _), (0, _), (1, _)]) [0, 1, 2] rfl ?_
  exact l_conds G h0 z b n tp k A d X n0 kd x1 x2 x3 hkd 3 0 j (-1) (-1) (-1) h Hw (by omega) (by decide)

