theorem iwX6_step_X6 : ∀ w ∈ wsX60, w ∈ wsX6_step := by decide +kernel
theorem iwX6_step_X9 : ∀ w ∈ wsX90, w ∈ wsX6_step := by decide +kernel
theorem iwX7_forgetConditions_X7 : ∀ w ∈ wsX70, w ∈ wsX7_forgetConditions := by decide +kernel
theorem iwX6_takeName_X6 : ∀ w ∈ wsX60, w ∈ wsX6_takeName := by decide +kernel
theorem iwX6_takeName_X7 : ∀ w ∈ wsX70, w ∈ wsX6_takeName := by decide +kernel
theorem iwX6_parse_X6 : ∀ w ∈ wsX60, w ∈ wsX6_parse := by decide +kernel
theorem iwX12_read_X12 : ∀ w ∈ wsX120, w ∈ wsX12_read := by decide +kernel
set_option maxRecDepth 20000 in
theorem ggX6_parse_X6_step : GoodIn wsX6_parse wsX6_step := goodIn_r _ [10, 1, 2, 11, 12, 13, 14, 15, 5, 16, 17, 9, 18, 19, 20, 21, 22, 131, 132, 133, 134, 135, 136, 137, 138, 139, 140, 141] (by decide +kernel) (by decide +kernel)
set_option maxRecDepth 20000 in
theorem gX6_parse_X6_step : GoodIn wsX6_parse (wsV RX6 35 RX6 yX6_step wsX6_step) := goodIn_app (goodIn_of _ (by decide +kernel)) ggX6_parse_X6_step
set_option maxRecDepth 20000 in
theorem ggX6_parse_X7_forgetConditions : GoodIn wsX6_parse wsX7_forgetConditions := goodIn_r _ [27, 28, 29, 30, 142, 143, 144, 145, 146, 147, 148, 149] (by decide +kernel) (by decide +kernel)
set_option maxRecDepth 20000 in
theorem gX6_parse_X7_forgetConditions : GoodIn wsX6_parse (wsV RX6 38 RX7 yX7_forgetConditions wsX7_forgetConditions) := goodIn_app (goodIn_of _ (by decide +kernel)) ggX6_parse_X7_forgetConditions
set_option maxRecDepth 20000 in
theorem ggX6_parse_X6_takeName : GoodIn wsX6_parse wsX6_takeName := goodIn_r _ [34, 5, 3, 4, 35, 15, 6, 7, 8, 9, 10, 1, 2, 11, 12, 13, 14, 16, 17, 18, 19, 20, 21, 22, 131, 132, 133, 134, 135, 136, 137, 138, 139, 142, 143, 144, 145, 146, 147, 148, 149, 140, 141] (by decide +kernel) (by decide +kernel)
set_option maxRecDepth 20000 in
theorem gX6_parse_X6_takeName : GoodIn wsX6_parse (wsV RX6 41 RX6 yX6_takeName wsX6_takeName) := goodIn_app (goodIn_of _ (by decide +kernel)) ggX6_parse_X6_takeName
theorem dX6_parse_0 : decode cX6_parse 0 = .ok (.aload_n 0, 1) := by decide +kernel
theorem dX6_parse_1 : decode cX6_parse 1 = .ok (.iconst (-1), 1) := by decide +kernel
theorem dX6_parse_2 : decode cX6_parse 2 = .ok (.putfield 26, 3) := by decide +kernel
theorem dX6_parse_5 : decode cX6_parse 5 = .ok (.aload_n 0, 1) := by decide +kernel
theorem dX6_parse_6 : decode cX6_parse 6 = .ok (.iconst 0, 1) := by decide +kernel
theorem dX6_parse_7 : decode cX6_parse 7 = .ok (.putfield 29, 3) := by decide +kernel
theorem dX6_parse_10 : decode cX6_parse 10 = .ok (.aload_n 0, 1) := by decide +kernel
theorem dX6_parse_11 : decode cX6_parse 11 = .ok (.iconst 0, 1) := by decide +kernel
theorem dX6_parse_12 : decode cX6_parse 12 = .ok (.putfield 32, 3) := by decide +kernel
theorem dX6_parse_15 : decode cX6_parse 15 = .ok (.aload_n 0, 1) := by decide +kernel
theorem dX6_parse_16 : decode cX6_parse 16 = .ok (.invokevirtual 35, 3) := by decide +kernel
theorem dX6_parse_19 : decode cX6_parse 19 = .ok (.iconst 0, 1) := by decide +kernel
theorem dX6_parse_20 : decode cX6_parse 20 = .ok (.istore_n 1, 1) := by decide +kernel
theorem dX6_parse_21 : decode cX6_parse 21 = .ok (.iload_n 1, 1) := by decide +kernel
theorem dX6_parse_22 : decode cX6_parse 22 = .ok (.bipush 20, 2) := by decide +kernel
theorem dX6_parse_24 : decode cX6_parse 24 = .ok (.if_icmp .ge 117, 3) := by decide +kernel
theorem dX6_parse_27 : decode cX6_parse 27 = .ok (.aload_n 0, 1) := by decide +kernel
theorem dX6_parse_28 : decode cX6_parse 28 = .ok (.getfield 21, 3) := by decide +kernel
theorem dX6_parse_31 : decode cX6_parse 31 = .ok (.iload_n 1, 1) := by decide +kernel
theorem dX6_parse_32 : decode cX6_parse 32 = .ok (.aaload, 1) := by decide +kernel
theorem dX6_parse_33 : decode cX6_parse 33 = .ok (.astore_n 2, 1) := by decide +kernel
theorem dX6_parse_34 : decode cX6_parse 34 = .ok (.aload_n 2, 1) := by decide +kernel
theorem dX6_parse_35 : decode cX6_parse 35 = .ok (.invokevirtual 38, 3) := by decide +kernel
theorem dX6_parse_38 : decode cX6_parse 38 = .ok (.aload_n 0, 1) := by decide +kernel
theorem dX6_parse_39 : decode cX6_parse 39 = .ok (.aload_n 2, 1) := by decide +kernel
theorem dX6_parse_40 : decode cX6_parse 40 = .ok (.invokevirtual 41, 3) := by decide +kernel
theorem dX6_parse_43 : decode cX6_parse 43 = .ok (.ifCond .eq 57, 3) := by decide +kernel
theorem dX6_parse_46 : decode cX6_parse 46 = .ok (.aload_n 0, 1) := by decide +kernel
theorem dX6_parse_47 : decode cX6_parse 47 = .ok (.bipush 61, 2) := by decide +kernel
theorem dX6_parse_49 : decode cX6_parse 49 = .ok (.invokevirtual 45, 3) := by decide +kernel
theorem dX6_parse_52 : decode cX6_parse 52 = .ok (.ifCond .eq 48, 3) := by decide +kernel
theorem dX6_parse_55 : decode cX6_parse 55 = .ok (.aload_n 0, 1) := by decide +kernel
theorem dX6_parse_56 : decode cX6_parse 56 = .ok (.aload_n 2, 1) := by decide +kernel
theorem dX6_parse_57 : decode cX6_parse 57 = .ok (.invokevirtual 49, 3) := by decide +kernel
theorem dX6_parse_60 : decode cX6_parse 60 = .ok (.ifCond .eq 40, 3) := by decide +kernel
theorem dX6_parse_63 : decode cX6_parse 63 = .ok (.aload_n 0, 1) := by decide +kernel
theorem dX6_parse_64 : decode cX6_parse 64 = .ok (.aload_n 2, 1) := by decide +kernel
theorem dX6_parse_65 : decode cX6_parse 65 = .ok (.invokevirtual 52, 3) := by decide +kernel
theorem dX6_parse_68 : decode cX6_parse 68 = .ok (.ifCond .eq 32, 3) := by decide +kernel
theorem dX6_parse_71 : decode cX6_parse 71 = .ok (.aload_n 0, 1) := by decide +kernel
theorem dX6_parse_72 : decode cX6_parse 72 = .ok (.bipush 60, 2) := by decide +kernel
theorem dX6_parse_74 : decode cX6_parse 74 = .ok (.invokevirtual 45, 3) := by decide +kernel
theorem dX6_parse_77 : decode cX6_parse 77 = .ok (.ifCond .eq 23, 3) := by decide +kernel
theorem dX6_parse_80 : decode cX6_parse 80 = .ok (.aload_n 0, 1) := by decide +kernel
theorem dX6_parse_81 : decode cX6_parse 81 = .ok (.aload_n 2, 1) := by decide +kernel
theorem dX6_parse_82 : decode cX6_parse 82 = .ok (.invokevirtual 55, 3) := by decide +kernel
theorem dX6_parse_85 : decode cX6_parse 85 = .ok (.ifCond .eq 15, 3) := by decide +kernel
theorem dX6_parse_88 : decode cX6_parse 88 = .ok (.aload_n 0, 1) := by decide +kernel
theorem dX6_parse_89 : decode cX6_parse 89 = .ok (.aload_n 2, 1) := by decide +kernel
theorem dX6_parse_90 : decode cX6_parse 90 = .ok (.invokevirtual 58, 3) := by decide +kernel
theorem dX6_parse_93 : decode cX6_parse 93 = .ok (.ifCond .eq 7, 3) := by decide +kernel
theorem dX6_parse_96 : decode cX6_parse 96 = .ok (.iconst 1, 1) := by decide +kernel
theorem dX6_parse_97 : decode cX6_parse 97 = .ok (.goto 4, 3) := by decide +kernel
theorem dX6_parse_100 : decode cX6_parse 100 = .ok (.iconst 0, 1) := by decide +kernel
theorem dX6_parse_101 : decode cX6_parse 101 = .ok (.istore_n 3, 1) := by decide +kernel
theorem dX6_parse_102 : decode cX6_parse 102 = .ok (.iload_n 3, 1) := by decide +kernel
theorem dX6_parse_103 : decode cX6_parse 103 = .ok (.ifCond .ne 10, 3) := by decide +kernel
theorem dX6_parse_106 : decode cX6_parse 106 = .ok (.iconst (-1), 1) := by decide +kernel
theorem dX6_parse_107 : decode cX6_parse 107 = .ok (.aload_n 0, 1) := by decide +kernel
theorem dX6_parse_108 : decode cX6_parse 108 = .ok (.getfield 26, 3) := by decide +kernel
theorem dX6_parse_111 : decode cX6_parse 111 = .ok (.isub, 1) := by decide +kernel
theorem dX6_parse_112 : decode cX6_parse 112 = .ok (.ireturn, 1) := by decide +kernel
theorem dX6_parse_113 : decode cX6_parse 113 = .ok (.aload_n 0, 1) := by decide +kernel
theorem dX6_parse_114 : decode cX6_parse 114 = .ok (.dup, 1) := by decide +kernel
theorem dX6_parse_115 : decode cX6_parse 115 = .ok (.getfield 32, 3) := by decide +kernel
theorem dX6_parse_118 : decode cX6_parse 118 = .ok (.iconst 1, 1) := by decide +kernel
theorem dX6_parse_119 : decode cX6_parse 119 = .ok (.iadd, 1) := by decide +kernel
theorem dX6_parse_120 : decode cX6_parse 120 = .ok (.putfield 32, 3) := by decide +kernel
theorem dX6_parse_123 : decode cX6_parse 123 = .ok (.aload_n 0, 1) := by decide +kernel
theorem dX6_parse_124 : decode cX6_parse 124 = .ok (.getfield 61, 3) := by decide +kernel
theorem dX6_parse_127 : decode cX6_parse 127 = .ok (.ifCond .ne 8, 3) := by decide +kernel
theorem dX6_parse_130 : decode cX6_parse 130 = .ok (.aload_n 0, 1) := by decide +kernel
theorem dX6_parse_131 : decode cX6_parse 131 = .ok (.getfield 32, 3) := by decide +kernel
theorem dX6_parse_134 : decode cX6_parse 134 = .ok (.ireturn, 1) := by decide +kernel
theorem dX6_parse_135 : decode cX6_parse 135 = .ok (.iinc 1 1, 3) := by decide +kernel
theorem dX6_parse_138 : decode cX6_parse 138 = .ok (.goto (-117), 3) := by decide +kernel
theorem dX6_parse_141 : decode cX6_parse 141 = .ok (.iconst (-1), 1) := by decide +kernel
theorem dX6_parse_142 : decode cX6_parse 142 = .ok (.aload_n 0, 1) := by decide +kernel
theorem dX6_parse_143 : decode cX6_parse 143 = .ok (.getfield 26, 3) := by decide +kernel
theorem dX6_parse_146 : decode cX6_parse 146 = .ok (.isub, 1) := by decide +kernel
theorem dX6_parse_147 : decode cX6_parse 147 = .ok (.ireturn, 1) := by decide +kernel
set_option maxRecDepth 20000 in
theorem ggX6_takeName_X6_step : GoodIn wsX6_takeName wsX6_step := goodIn_r _ [10, 11, 12, 13, 14, 15, 16, 5, 1, 17, 18, 9, 19, 20, 21, 22, 23, 24, 25, 26, 27, 28, 29, 30, 31, 32, 41, 42] (by decide +kernel) (by decide +kernel)
set_option maxRecDepth 20000 in
theorem gX6_takeName_X6_step : GoodIn wsX6_takeName (wsV RX6 35 RX6 yX6_step wsX6_step) := goodIn_app (goodIn_of _ (by decide +kernel)) ggX6_takeName_X6_step
theorem dX6_takeName_0 : decode cX6_takeName 0 = .ok (.aload_n 0, 1) := by decide +kernel
theorem dX6_takeName_1 : decode cX6_takeName 1 = .ok (.getfield 61, 3) := by decide +kernel
theorem dX6_takeName_4 : decode cX6_takeName 4 = .ok (.iconst 2, 1) := by decide +kernel
theorem dX6_takeName_5 : decode cX6_takeName 5 = .ok (.if_icmp .eq 5, 3) := by decide +kernel
theorem dX6_takeName_8 : decode cX6_takeName 8 = .ok (.iconst 0, 1) := by decide +kernel
theorem dX6_takeName_9 : decode cX6_takeName 9 = .ok (.ireturn, 1) := by decide +kernel
theorem dX6_takeName_10 : decode cX6_takeName 10 = .ok (.iconst 0, 1) := by decide +kernel
theorem dX6_takeName_11 : decode cX6_takeName 11 = .ok (.istore_n 2, 1) := by decide +kernel
theorem dX6_takeName_12 : decode cX6_takeName 12 = .ok (.iload_n 2, 1) := by decide +kernel
theorem dX6_takeName_13 : decode cX6_takeName 13 = .ok (.aload_n 0, 1) := by decide +kernel
theorem dX6_takeName_14 : decode cX6_takeName 14 = .ok (.getfield 32, 3) := by decide +kernel
theorem dX6_takeName_17 : decode cX6_takeName 17 = .ok (.if_icmp .ge 28, 3) := by decide +kernel
theorem dX6_takeName_20 : decode cX6_takeName 20 = .ok (.aload_n 0, 1) := by decide +kernel
theorem dX6_takeName_21 : decode cX6_takeName 21 = .ok (.getfield 21, 3) := by decide +kernel
theorem dX6_takeName_24 : decode cX6_takeName 24 = .ok (.iload_n 2, 1) := by decide +kernel
theorem dX6_takeName_25 : decode cX6_takeName 25 = .ok (.aaload, 1) := by decide +kernel
theorem dX6_takeName_26 : decode cX6_takeName 26 = .ok (.getfield 64, 3) := by decide +kernel
theorem dX6_takeName_29 : decode cX6_takeName 29 = .ok (.aload_n 0, 1) := by decide +kernel
theorem dX6_takeName_30 : decode cX6_takeName 30 = .ok (.getfield 68, 3) := by decide +kernel
theorem dX6_takeName_33 : decode cX6_takeName 33 = .ok (.lcmp, 1) := by decide +kernel
theorem dX6_takeName_34 : decode cX6_takeName 34 = .ok (.ifCond .ne 5, 3) := by decide +kernel
theorem dX6_takeName_37 : decode cX6_takeName 37 = .ok (.iconst 0, 1) := by decide +kernel
theorem dX6_takeName_38 : decode cX6_takeName 38 = .ok (.ireturn, 1) := by decide +kernel
theorem dX6_takeName_39 : decode cX6_takeName 39 = .ok (.iinc 2 1, 3) := by decide +kernel
theorem dX6_takeName_42 : decode cX6_takeName 42 = .ok (.goto (-30), 3) := by decide +kernel
theorem dX6_takeName_45 : decode cX6_takeName 45 = .ok (.aload_n 1, 1) := by decide +kernel
theorem dX6_takeName_46 : decode cX6_takeName 46 = .ok (.aload_n 0, 1) := by decide +kernel
theorem dX6_takeName_47 : decode cX6_takeName 47 = .ok (.getfield 68, 3) := by decide +kernel
theorem dX6_takeName_50 : decode cX6_takeName 50 = .ok (.putfield 64, 3) := by decide +kernel
theorem dX6_takeName_53 : decode cX6_takeName 53 = .ok (.aload_n 0, 1) := by decide +kernel
theorem dX6_takeName_54 : decode cX6_takeName 54 = .ok (.invokevirtual 35, 3) := by decide +kernel
theorem dX6_takeName_57 : decode cX6_takeName 57 = .ok (.iconst 1, 1) := by decide +kernel
theorem dX6_takeName_58 : decode cX6_takeName 58 = .ok (.ireturn, 1) := by decide +kernel
theorem dX6_step_0 : decode cX6_step 0 = .ok (.aload_n 0, 1) := by decide +kernel
theorem dX6_step_1 : decode cX6_step 1 = .ok (.dup, 1) := by decide +kernel
theorem dX6_step_2 : decode cX6_step 2 = .ok (.getfield 26, 3) := by decide +kernel
theorem dX6_step_5 : decode cX6_step 5 = .ok (.iconst 1, 1) := by decide +kernel
theorem dX6_step_6 : decode cX6_step 6 = .ok (.iadd, 1) := by decide +kernel
theorem dX6_step_7 : decode cX6_step 7 = .ok (.putfield 26, 3) := by decide +kernel
theorem dX6_step_10 : decode cX6_step 10 = .ok (.aload_n 0, 1) := by decide +kernel
theorem dX6_step_11 : decode cX6_step 11 = .ok (.getfield 29, 3) := by decide +kernel
theorem dX6_step_14 : decode cX6_step 14 = .ok (.aload_n 0, 1) := by decide +kernel
theorem dX6_step_15 : decode cX6_step 15 = .ok (.getfield 9, 3) := by decide +kernel
theorem dX6_step_18 : decode cX6_step 18 = .ok (.getfield 150, 3) := by decide +kernel
theorem dX6_step_21 : decode cX6_step 21 = .ok (.if_icmp .ge 35, 3) := by decide +kernel
theorem dX6_step_24 : decode cX6_step 24 = .ok (.aload_n 0, 1) := by decide +kernel
theorem dX6_step_25 : decode cX6_step 25 = .ok (.getfield 9, 3) := by decide +kernel
theorem dX6_step_28 : decode cX6_step 28 = .ok (.getfield 97, 3) := by decide +kernel
theorem dX6_step_31 : decode cX6_step 31 = .ok (.aload_n 0, 1) := by decide +kernel
theorem dX6_step_32 : decode cX6_step 32 = .ok (.getfield 29, 3) := by decide +kernel
theorem dX6_step_35 : decode cX6_step 35 = .ok (.iaload, 1) := by decide +kernel
theorem dX6_step_36 : decode cX6_step 36 = .ok (.invokestatic 153, 3) := by decide +kernel
theorem dX6_step_39 : decode cX6_step 39 = .ok (.iconst 1, 1) := by decide +kernel
theorem dX6_step_40 : decode cX6_step 40 = .ok (.if_icmp .ne 16, 3) := by decide +kernel
theorem dX6_step_43 : decode cX6_step 43 = .ok (.aload_n 0, 1) := by decide +kernel
theorem dX6_step_44 : decode cX6_step 44 = .ok (.dup, 1) := by decide +kernel
theorem dX6_step_45 : decode cX6_step 45 = .ok (.getfield 29, 3) := by decide +kernel
theorem dX6_step_48 : decode cX6_step 48 = .ok (.iconst 1, 1) := by decide +kernel
theorem dX6_step_49 : decode cX6_step 49 = .ok (.iadd, 1) := by decide +kernel
theorem dX6_step_50 : decode cX6_step 50 = .ok (.putfield 29, 3) := by decide +kernel
theorem dX6_step_53 : decode cX6_step 53 = .ok (.goto (-43), 3) := by decide +kernel
theorem dX6_step_56 : decode cX6_step 56 = .ok (.aload_n 0, 1) := by decide +kernel
theorem dX6_step_57 : decode cX6_step 57 = .ok (.aload_n 0, 1) := by decide +kernel
theorem dX6_step_58 : decode cX6_step 58 = .ok (.getfield 29, 3) := by decide +kernel
theorem dX6_step_61 : decode cX6_step 61 = .ok (.putfield 88, 3) := by decide +kernel
theorem dX6_step_64 : decode cX6_step 64 = .ok (.aload_n 0, 1) := by decide +kernel
theorem dX6_step_65 : decode cX6_step 65 = .ok (.lconst 0, 1) := by decide +kernel
theorem dX6_step_66 : decode cX6_step 66 = .ok (.putfield 68, 3) := by decide +kernel
theorem dX6_step_69 : decode cX6_step 69 = .ok (.aload_n 0, 1) := by decide +kernel
theorem dX6_step_70 : decode cX6_step 70 = .ok (.aload_n 0, 1) := by decide +kernel
theorem dX6_step_71 : decode cX6_step 71 = .ok (.getfield 29, 3) := by decide +kernel
theorem dX6_step_74 : decode cX6_step 74 = .ok (.aload_n 0, 1) := by decide +kernel
theorem dX6_step_75 : decode cX6_step 75 = .ok (.getfield 9, 3) := by decide +kernel
theorem dX6_step_78 : decode cX6_step 78 = .ok (.getfield 150, 3) := by decide +kernel
theorem dX6_step_81 : decode cX6_step 81 = .ok (.if_icmp .ge 21, 3) := by decide +kernel
theorem dX6_step_84 : decode cX6_step 84 = .ok (.aload_n 0, 1) := by decide +kernel
theorem dX6_step_85 : decode cX6_step 85 = .ok (.getfield 9, 3) := by decide +kernel
theorem dX6_step_88 : decode cX6_step 88 = .ok (.getfield 97, 3) := by decide +kernel
theorem dX6_step_91 : decode cX6_step 91 = .ok (.aload_n 0, 1) := by decide +kernel
theorem dX6_step_92 : decode cX6_step 92 = .ok (.getfield 29, 3) := by decide +kernel
theorem dX6_step_95 : decode cX6_step 95 = .ok (.iaload, 1) := by decide +kernel
theorem dX6_step_96 : decode cX6_step 96 = .ok (.invokestatic 153, 3) := by decide +kernel
theorem dX6_step_99 : decode cX6_step 99 = .ok (.goto 4, 3) := by decide +kernel
theorem dX6_step_102 : decode cX6_step 102 = .ok (.iconst 0, 1) := by decide +kernel
theorem dX6_step_103 : decode cX6_step 103 = .ok (.putfield 61, 3) := by decide +kernel
theorem dX6_step_106 : decode cX6_step 106 = .ok (.aload_n 0, 1) := by decide +kernel
theorem dX6_step_107 : decode cX6_step 107 = .ok (.getfield 61, 3) := by decide +kernel
theorem dX6_step_110 : decode cX6_step 110 = .ok (.iconst 2, 1) := by decide +kernel
theorem dX6_step_111 : decode cX6_step 111 = .ok (.if_icmp .ne 16, 3) := by decide +kernel
theorem dX6_step_114 : decode cX6_step 114 = .ok (.aload_n 0, 1) := by decide +kernel
theorem dX6_step_115 : decode cX6_step 115 = .ok (.bipush 96, 2) := by decide +kernel
theorem dX6_step_117 : decode cX6_step 117 = .ok (.bipush 27, 2) := by decide +kernel
theorem dX6_step_119 : decode cX6_step 119 = .ok (.bipush 8, 2) := by decide +kernel
theorem dX6_step_121 : decode cX6_step 121 = .ok (.invokevirtual 156, 3) := by decide +kernel
theorem dX6_step_124 : decode cX6_step 124 = .ok (.goto 58, 3) := by decide +kernel
theorem dX6_step_127 : decode cX6_step 127 = .ok (.aload_n 0, 1) := by decide +kernel
theorem dX6_step_128 : decode cX6_step 128 = .ok (.getfield 61, 3) := by decide +kernel
theorem dX6_step_131 : decode cX6_step 131 = .ok (.iconst 3, 1) := by decide +kernel
theorem dX6_step_132 : decode cX6_step 132 = .ok (.if_icmp .ne 16, 3) := by decide +kernel
theorem dX6_step_135 : decode cX6_step 135 = .ok (.aload_n 0, 1) := by decide +kernel
theorem dX6_step_136 : decode cX6_step 136 = .ok (.bipush 48, 2) := by decide +kernel
theorem dX6_step_138 : decode cX6_step 138 = .ok (.bipush 10, 2) := by decide +kernel
theorem dX6_step_140 : decode cX6_step 140 = .ok (.bipush 9, 2) := by decide +kernel
theorem dX6_step_142 : decode cX6_step 142 = .ok (.invokevirtual 156, 3) := by decide +kernel
theorem dX6_step_145 : decode cX6_step 145 = .ok (.goto 37, 3) := by decide +kernel
theorem dX6_step_148 : decode cX6_step 148 = .ok (.aload_n 0, 1) := by decide +kernel
theorem dX6_step_149 : decode cX6_step 149 = .ok (.getfield 61, 3) := by decide +kernel
theorem dX6_step_152 : decode cX6_step 152 = .ok (.ifCond .eq 30, 3) := by decide +kernel
theorem dX6_step_155 : decode cX6_step 155 = .ok (.aload_n 0, 1) := by decide +kernel
theorem dX6_step_156 : decode cX6_step 156 = .ok (.aload_n 0, 1) := by decide +kernel
theorem dX6_step_157 : decode cX6_step 157 = .ok (.getfield 9, 3) := by decide +kernel
theorem dX6_step_160 : decode cX6_step 160 = .ok (.getfield 97, 3) := by decide +kernel
theorem dX6_step_163 : decode cX6_step 163 = .ok (.aload_n 0, 1) := by decide +kernel
theorem dX6_step_164 : decode cX6_step 164 = .ok (.getfield 29, 3) := by decide +kernel
theorem dX6_step_167 : decode cX6_step 167 = .ok (.iaload, 1) := by decide +kernel
theorem dX6_step_168 : decode cX6_step 168 = .ok (.i2l, 1) := by decide +kernel
theorem dX6_step_169 : decode cX6_step 169 = .ok (.putfield 68, 3) := by decide +kernel
theorem dX6_step_172 : decode cX6_step 172 = .ok (.aload_n 0, 1) := by decide +kernel
theorem dX6_step_173 : decode cX6_step 173 = .ok (.dup, 1) := by decide +kernel
theorem dX6_step_174 : decode cX6_step 174 = .ok (.getfield 29, 3) := by decide +kernel
theorem dX6_step_177 : decode cX6_step 177 = .ok (.iconst 1, 1) := by decide +kernel
theorem dX6_step_178 : decode cX6_step 178 = .ok (.iadd, 1) := by decide +kernel
theorem dX6_step_179 : decode cX6_step 179 = .ok (.putfield 29, 3) := by decide +kernel
theorem dX6_step_182 : decode cX6_step 182 = .ok (.return_, 1) := by decide +kernel
theorem dX7_forgetConditions_0 : decode cX7_forgetConditions 0 = .ok (.aload_n 0, 1) := by decide +kernel
theorem dX7_forgetConditions_1 : decode cX7_forgetConditions 1 = .ok (.iconst (-1), 1) := by decide +kernel
theorem dX7_forgetConditions_2 : decode cX7_forgetConditions 2 = .ok (.putfield 20, 3) := by decide +kernel
theorem dX7_forgetConditions_5 : decode cX7_forgetConditions 5 = .ok (.aload_n 0, 1) := by decide +kernel
theorem dX7_forgetConditions_6 : decode cX7_forgetConditions 6 = .ok (.iconst (-1), 1) := by decide +kernel
theorem dX7_forgetConditions_7 : decode cX7_forgetConditions 7 = .ok (.putfield 24, 3) := by decide +kernel
theorem dX7_forgetConditions_10 : decode cX7_forgetConditions 10 = .ok (.aload_n 0, 1) := by decide +kernel
theorem dX7_forgetConditions_11 : decode cX7_forgetConditions 11 = .ok (.iconst (-1), 1) := by decide +kernel
theorem dX7_forgetConditions_12 : decode cX7_forgetConditions 12 = .ok (.putfield 27, 3) := by decide +kernel
theorem dX7_forgetConditions_15 : decode cX7_forgetConditions 15 = .ok (.return_, 1) := by decide +kernel
set_option maxRecDepth 20000 in
theorem ggX12_read_X6_parse : GoodIn wsX12_read wsX6_parse := goodIn_r _ [12, 13, 14, 15, 16, 17, 18, 19, 20, 11, 21, 22, 23, 24, 25, 26, 27, 28, 29, 30, 31, 32, 33, 34, 35, 36, 37, 38, 39, 40, 41, 42, 43, 44, 45, 46, 47, 48, 49, 50, 51, 52, 53, 54, 55, 56, 57, 58, 59, 60, 61, 62, 63, 64, 65, 66, 67, 68, 69, 70, 71, 72, 73, 74, 75, 76, 77, 78, 79, 80, 81, 82, 83, 84, 85, 86, 87, 88, 89, 90, 91, 92, 93, 94, 95, 96, 97, 98, 99, 100, 101, 102, 103, 104, 105, 106, 107, 108, 109, 110, 111, 112, 113, 114, 115, 116, 117, 118, 119, 120, 121, 122, 123, 124, 125, 126, 127, 128, 129, 130, 131, 132, 133, 134, 135, 136, 137, 138, 139, 140, 141, 179, 180, 181, 182, 183, 184, 185, 186, 187, 188, 189, 190, 191, 192, 193, 194, 195, 196, 197] (by decide +kernel) (by decide +kernel)
set_option maxRecDepth 20000 in
theorem gX12_read_X6_parse : GoodIn wsX12_read (wsV RX12 85 RX6 yX6_parse wsX6_parse) := goodIn_app (goodIn_of _ (by decide +kernel)) ggX12_read_X6_parse
set_option maxRecDepth 20000 in
theorem ggX12_read_X9_clear : GoodIn wsX12_read wsX9_clear := goodIn_r _ [146, 147, 188, 189] (by decide +kernel) (by decide +kernel)
set_option maxRecDepth 20000 in
theorem gX12_read_X9_clear : GoodIn wsX12_read (wsV RX12 88 RX9 yX9_clear wsX9_clear) := goodIn_app (goodIn_of _ (by decide +kernel)) ggX12_read_X9_clear
theorem dX12_read_0 : decode cX12_read 0 = .ok (.aload_n 0, 1) := by decide +kernel
theorem dX12_read_1 : decode cX12_read 1 = .ok (.getfield 31, 3) := by decide +kernel
theorem dX12_read_4 : decode cX12_read 4 = .ok (.invokevirtual 85, 3) := by decide +kernel
theorem dX12_read_7 : decode cX12_read 7 = .ok (.istore_n 1, 1) := by decide +kernel
theorem dX12_read_8 : decode cX12_read 8 = .ok (.aload_n 0, 1) := by decide +kernel
theorem dX12_read_9 : decode cX12_read 9 = .ok (.getfield 22, 3) := by decide +kernel
theorem dX12_read_12 : decode cX12_read 12 = .ok (.invokevirtual 88, 3) := by decide +kernel
theorem dX12_read_15 : decode cX12_read 15 = .ok (.iload_n 1, 1) := by decide +kernel
theorem dX12_read_16 : decode cX12_read 16 = .ok (.ifCond .lt 42, 3) := by decide +kernel
theorem dX12_read_19 : decode cX12_read 19 = .ok (.aload_n 0, 1) := by decide +kernel
theorem dX12_read_20 : decode cX12_read 20 = .ok (.aload_n 0, 1) := by decide +kernel
theorem dX12_read_21 : decode cX12_read 21 = .ok (.getfield 31, 3) := by decide +kernel
theorem dX12_read_24 : decode cX12_read 24 = .ok (.aload_n 0, 1) := by decide +kernel
theorem dX12_read_25 : decode cX12_read 25 = .ok (.getfield 53, 3) := by decide +kernel
theorem dX12_read_28 : decode cX12_read 28 = .ok (.invokevirtual 91, 3) := by decide +kernel
theorem dX12_read_31 : decode cX12_read 31 = .ok (.putfield 53, 3) := by decide +kernel
theorem dX12_read_34 : decode cX12_read 34 = .ok (.aload_n 0, 1) := by decide +kernel
theorem dX12_read_35 : decode cX12_read 35 = .ok (.iload_n 1, 1) := by decide +kernel
theorem dX12_read_36 : decode cX12_read 36 = .ok (.putfield 95, 3) := by decide +kernel
theorem dX12_read_39 : decode cX12_read 39 = .ok (.aload_n 0, 1) := by decide +kernel
theorem dX12_read_40 : decode cX12_read 40 = .ok (.iconst 0, 1) := by decide +kernel
theorem dX12_read_41 : decode cX12_read 41 = .ok (.putfield 99, 3) := by decide +kernel
theorem dX12_read_44 : decode cX12_read 44 = .ok (.aload_n 0, 1) := by decide +kernel
theorem dX12_read_45 : decode cX12_read 45 = .ok (.getfield 61, 3) := by decide +kernel
theorem dX12_read_48 : decode cX12_read 48 = .ok (.invokevirtual 103, 3) := by decide +kernel
theorem dX12_read_51 : decode cX12_read 51 = .ok (.aload_n 0, 1) := by decide +kernel
theorem dX12_read_52 : decode cX12_read 52 = .ok (.getfield 47, 3) := by decide +kernel
theorem dX12_read_55 : decode cX12_read 55 = .ok (.invokevirtual 104, 3) := by decide +kernel
theorem dX12_read_58 : decode cX12_read 58 = .ok (.iload_n 1, 1) := by decide +kernel
theorem dX12_read_59 : decode cX12_read 59 = .ok (.ireturn, 1) := by decide +kernel

abbrev mX7_forgetConditions : sv_M := (cX7_forgetConditions, 1, yX7_forgetConditions, wsX7_forgetConditions, none, { frames := 0, cells := 0, slots := 0, locals := 0 }, [])
abbrev mX6_step : sv_M := (cX6_step, 1, yX6_step, wsX6_step, none, { frames := 20, cells := 0, slots := 0, locals := 1000 }, [])
abbrev mX6_takeName : sv_M := (cX6_takeName, 3, yX6_takeName, wsX6_takeName, (some .boolean), { frames := 30, cells := 0, slots := 0, locals := 1500 }, [])
abbrev mX6_parse : sv_M := (cX6_parse, 4, yX6_parse, wsX6_parse, (some .int), { frames := 60, cells := 0, slots := 0, locals := 3000 }, [])
set_option maxHeartbeats 4000000 in
set_option maxRecDepth 100000 in
theorem c_forget (G : sv_G) (h : sv_h) (z r : Nat) (n0 : Int64) (kd : Nat) (a0 a1 li x0 x1 x2 : Int32) (hr : h r = some (.inr (5, [.long n0, .ref kd, .int a0, .int a1, .int li, .int x0, .int x1, .int x2]))) : CT G mX7_forgetConditions [.ref r] h z (fun v h1 z1 => v = none ∧ h1 = va_up h r (some (.inr (5, [.long n0, .ref kd, .int a0, .int a1, .int li, .int (-1), .int (-1), .int (-1)]))) ∧ z1 = z) := by
  refine CT.of (by decide +kernel) rfl rfl (Nat.le_of_ble_eq_true rfl) ?_
  refine v_aload_n dX7_forgetConditions_0 rfl 0 rfl ?_
  refine v_iconst (v := (-1)) dX7_forgetConditions_1 (by decide) ?_
  refine v_putf 5 (fs' := [_, _, _, _, _, _, _, _]) (ci := 5) (C := RX7) (T := TX7) (N := 8) (ty := .int) rfl iwX7_forgetConditions_X7 tyX7 tyX7_ok nmX7 (Nat.le_of_ble_eq_true rfl) (by decide +kernel) rfl rfl dX7_forgetConditions_2 rfl rfl (by repeat (first | (with_reducible refine sv_us.trans ?_; exact rfl) | with_reducible assumption | with_reducible refine (sv_un (by omega)).trans ?_)) (Nat.le_of_ble_eq_true rfl) rfl ?_
  refine v_aload_n dX7_forgetConditions_5 rfl 0 rfl ?_
  refine v_iconst (v := (-1)) dX7_forgetConditions_6 (by decide) ?_
  refine v_putf 6 (fs' := [_, _, _, _, _, _, _, _]) (ci := 5) (C := RX7) (T := TX7) (N := 8) (ty := .int) rfl iwX7_forgetConditions_X7 tyX7 tyX7_ok nmX7 (Nat.le_of_ble_eq_true rfl) (by decide +kernel) rfl rfl dX7_forgetConditions_7 rfl rfl (by repeat (first | (with_reducible refine sv_us.trans ?_; exact rfl) | with_reducible assumption | with_reducible refine (sv_un (by omega)).trans ?_)) (Nat.le_of_ble_eq_true rfl) rfl ?_
  refine v_aload_n dX7_forgetConditions_10 rfl 0 rfl ?_
  refine v_iconst (v := (-1)) dX7_forgetConditions_11 (by decide) ?_
  refine v_putf 7 (fs' := [_, _, _, _, _, _, _, _]) (ci := 5) (C := RX7) (T := TX7) (N := 8) (ty := .int) rfl iwX7_forgetConditions_X7 tyX7 tyX7_ok nmX7 (Nat.le_of_ble_eq_true rfl) (by decide +kernel) rfl rfl dX7_forgetConditions_12 rfl rfl (by repeat (first | (with_reducible refine sv_us.trans ?_; exact rfl) | with_reducible assumption | with_reducible refine (sv_un (by omega)).trans ?_)) (Nat.le_of_ble_eq_true rfl) rfl ?_
  exact v_ret rfl dX7_forgetConditions_15 (Nat.le_of_ble_eq_true rfl) (Nat.le_of_ble_eq_true rfl) ⟨rfl, by simp only [sv_uu], rfl⟩

