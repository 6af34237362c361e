theorem iwX10_has_X10 : ∀ w ∈ wsX100, w ∈ wsX10_has := by decide +kernel
theorem iwX12_place_X12 : ∀ w ∈ wsX120, w ∈ wsX12_place := by decide +kernel
theorem iwX12_place_X3 : ∀ w ∈ wsX30, w ∈ wsX12_place := by decide +kernel
theorem iwX12_hasRule_X12 : ∀ w ∈ wsX120, w ∈ wsX12_hasRule := by decide +kernel
theorem iwX12_run_X1 : ∀ w ∈ wsX10, w ∈ wsX12_run := by decide +kernel
theorem iwX12_run_X10 : ∀ w ∈ wsX100, w ∈ wsX12_run := by decide +kernel
theorem iwX12_run_X12 : ∀ w ∈ wsX120, w ∈ wsX12_run := by decide +kernel
theorem iwX12_run_X3 : ∀ w ∈ wsX30, w ∈ wsX12_run := by decide +kernel
theorem iwX12_run_X4 : ∀ w ∈ wsX40, w ∈ wsX12_run := by decide +kernel
theorem iwX12_run_X5 : ∀ w ∈ wsX50, w ∈ wsX12_run := by decide +kernel
theorem iwX12_run_X7 : ∀ w ∈ wsX70, w ∈ wsX12_run := by decide +kernel
theorem iwX12_run_X8 : ∀ w ∈ wsX80, w ∈ wsX12_run := by decide +kernel
theorem iwX12_violation_X12 : ∀ w ∈ wsX120, w ∈ wsX12_violation := by decide +kernel
theorem iwX12_cellOf_X12 : ∀ w ∈ wsX120, w ∈ wsX12_cellOf := by decide +kernel
theorem iwX12_waive_X11 : ∀ w ∈ wsX110, w ∈ wsX12_waive := by decide +kernel
theorem iwX12_waive_X12 : ∀ w ∈ wsX120, w ∈ wsX12_waive := by decide +kernel
theorem iwX12_changed_X10 : ∀ w ∈ wsX100, w ∈ wsX12_changed := by decide +kernel
theorem iwX12_changed_X12 : ∀ w ∈ wsX120, w ∈ wsX12_changed := by decide +kernel
theorem iwX12_same_X1 : ∀ w ∈ wsX10, w ∈ wsX12_same := by decide +kernel
theorem iwX12_same_X10 : ∀ w ∈ wsX100, w ∈ wsX12_same := by decide +kernel
theorem iwX12_same_X12 : ∀ w ∈ wsX120, w ∈ wsX12_same := by decide +kernel
theorem iwX12_same_X3 : ∀ w ∈ wsX30, w ∈ wsX12_same := by decide +kernel
theorem iwX12_same_X4 : ∀ w ∈ wsX40, w ∈ wsX12_same := by decide +kernel
theorem iwX12_same_X5 : ∀ w ∈ wsX50, w ∈ wsX12_same := by decide +kernel
theorem iwX12_same_X7 : ∀ w ∈ wsX70, w ∈ wsX12_same := by decide +kernel
theorem iwX12_same_X8 : ∀ w ∈ wsX80, w ∈ wsX12_same := by decide +kernel
theorem dX10_has_0 : decode cX10_has 0 = .ok (.iload_n 1, 1) := by decide +kernel
theorem dX10_has_1 : decode cX10_has 1 = .ok (.ifCond .lt 15, 3) := by decide +kernel
theorem dX10_has_4 : decode cX10_has 4 = .ok (.iload_n 1, 1) := by decide +kernel
theorem dX10_has_5 : decode cX10_has 5 = .ok (.aload_n 0, 1) := by decide +kernel
theorem dX10_has_6 : decode cX10_has 6 = .ok (.getfield 24, 3) := by decide +kernel
theorem dX10_has_9 : decode cX10_has 9 = .ok (.if_icmp .ge 7, 3) := by decide +kernel
theorem dX10_has_12 : decode cX10_has 12 = .ok (.iconst 1, 1) := by decide +kernel
theorem dX10_has_13 : decode cX10_has 13 = .ok (.goto 4, 3) := by decide +kernel
theorem dX10_has_16 : decode cX10_has 16 = .ok (.iconst 0, 1) := by decide +kernel
theorem dX10_has_17 : decode cX10_has 17 = .ok (.ireturn, 1) := by decide +kernel
set_option maxRecDepth 20000 in
theorem ggX12_place_X3_hasCell : GoodIn wsX12_place wsX3_hasCell := goodIn_r _ [13, 14, 66, 67, 68, 69, 70, 71, 72, 73, 74, 75] (by decide +kernel) (by decide +kernel)
set_option maxRecDepth 20000 in
theorem gX12_place_X3_hasCell : GoodIn wsX12_place (wsV RX12 115 RX3 yX3_hasCell wsX3_hasCell) := goodIn_app (goodIn_of _ (by decide +kernel)) ggX12_place_X3_hasCell
theorem dX12_place_0 : decode cX12_place 0 = .ok (.aload_n 0, 1) := by decide +kernel
theorem dX12_place_1 : decode cX12_place 1 = .ok (.getfield 15, 3) := by decide +kernel
theorem dX12_place_4 : decode cX12_place 4 = .ok (.iload_n 1, 1) := by decide +kernel
theorem dX12_place_5 : decode cX12_place 5 = .ok (.invokevirtual 115, 3) := by decide +kernel
theorem dX12_place_8 : decode cX12_place 8 = .ok (.ifCond .eq 14, 3) := by decide +kernel
theorem dX12_place_11 : decode cX12_place 11 = .ok (.aload_n 0, 1) := by decide +kernel
theorem dX12_place_12 : decode cX12_place 12 = .ok (.getfield 15, 3) := by decide +kernel
theorem dX12_place_15 : decode cX12_place 15 = .ok (.iload_n 2, 1) := by decide +kernel
theorem dX12_place_16 : decode cX12_place 16 = .ok (.invokevirtual 115, 3) := by decide +kernel
theorem dX12_place_19 : decode cX12_place 19 = .ok (.ifCond .ne 13, 3) := by decide +kernel
theorem dX12_place_22 : decode cX12_place 22 = .ok (.new 121, 3) := by decide +kernel
theorem dX12_place_25 : decode cX12_place 25 = .ok (.dup, 1) := by decide +kernel
theorem dX12_place_26 : decode cX12_place 26 = .ok (.ldc 173, 2) := by decide +kernel
theorem dX12_place_28 : decode cX12_place 28 = .ok (.invokespecial 125, 3) := by decide +kernel
theorem dX12_place_31 : decode cX12_place 31 = .ok (.athrow, 1) := by decide +kernel
theorem dX12_place_32 : decode cX12_place 32 = .ok (.aload_n 0, 1) := by decide +kernel
theorem dX12_place_33 : decode cX12_place 33 = .ok (.getfield 15, 3) := by decide +kernel
theorem dX12_place_36 : decode cX12_place 36 = .ok (.getfield 175, 3) := by decide +kernel
theorem dX12_place_39 : decode cX12_place 39 = .ok (.bipush 32, 2) := by decide +kernel
theorem dX12_place_41 : decode cX12_place 41 = .ok (.if_icmp .lt 13, 3) := by decide +kernel
theorem dX12_place_44 : decode cX12_place 44 = .ok (.new 108, 3) := by decide +kernel
theorem dX12_place_47 : decode cX12_place 47 = .ok (.dup, 1) := by decide +kernel
theorem dX12_place_48 : decode cX12_place 48 = .ok (.ldc 178, 2) := by decide +kernel
theorem dX12_place_50 : decode cX12_place 50 = .ok (.invokespecial 112, 3) := by decide +kernel
theorem dX12_place_53 : decode cX12_place 53 = .ok (.athrow, 1) := by decide +kernel
theorem dX12_place_54 : decode cX12_place 54 = .ok (.lload_n 3, 1) := by decide +kernel
theorem dX12_place_55 : decode cX12_place 55 = .ok (.invokestatic 151, 3) := by decide +kernel
theorem dX12_place_58 : decode cX12_place 58 = .ok (.ifCond .eq 23, 3) := by decide +kernel
theorem dX12_place_61 : decode cX12_place 61 = .ok (.lload 5, 2) := by decide +kernel
theorem dX12_place_63 : decode cX12_place 63 = .ok (.invokestatic 151, 3) := by decide +kernel
theorem dX12_place_66 : decode cX12_place 66 = .ok (.ifCond .eq 15, 3) := by decide +kernel
theorem dX12_place_69 : decode cX12_place 69 = .ok (.iload 7, 2) := by decide +kernel
theorem dX12_place_71 : decode cX12_place 71 = .ok (.ifCond .lt 10, 3) := by decide +kernel
theorem dX12_place_74 : decode cX12_place 74 = .ok (.iload 7, 2) := by decide +kernel
theorem dX12_place_76 : decode cX12_place 76 = .ok (.bipush 8, 2) := by decide +kernel
theorem dX12_place_78 : decode cX12_place 78 = .ok (.if_icmp .lt 13, 3) := by decide +kernel
theorem dX12_place_81 : decode cX12_place 81 = .ok (.new 155, 3) := by decide +kernel
theorem dX12_place_84 : decode cX12_place 84 = .ok (.dup, 1) := by decide +kernel
theorem dX12_place_85 : decode cX12_place 85 = .ok (.ldc 180, 2) := by decide +kernel
theorem dX12_place_87 : decode cX12_place 87 = .ok (.invokespecial 159, 3) := by decide +kernel
theorem dX12_place_90 : decode cX12_place 90 = .ok (.athrow, 1) := by decide +kernel
theorem dX12_place_91 : decode cX12_place 91 = .ok (.aload_n 0, 1) := by decide +kernel
theorem dX12_place_92 : decode cX12_place 92 = .ok (.getfield 15, 3) := by decide +kernel
theorem dX12_place_95 : decode cX12_place 95 = .ok (.iload_n 1, 1) := by decide +kernel
theorem dX12_place_96 : decode cX12_place 96 = .ok (.iload_n 2, 1) := by decide +kernel
theorem dX12_place_97 : decode cX12_place 97 = .ok (.invokevirtual 182, 3) := by decide +kernel
theorem dX12_place_100 : decode cX12_place 100 = .ok (.ifCond .eq 5, 3) := by decide +kernel
theorem dX12_place_103 : decode cX12_place 103 = .ok (.iconst (-1), 1) := by decide +kernel
theorem dX12_place_104 : decode cX12_place 104 = .ok (.ireturn, 1) := by decide +kernel
theorem dX12_place_105 : decode cX12_place 105 = .ok (.aload_n 0, 1) := by decide +kernel
theorem dX12_place_106 : decode cX12_place 106 = .ok (.getfield 15, 3) := by decide +kernel
theorem dX12_place_109 : decode cX12_place 109 = .ok (.iload_n 1, 1) := by decide +kernel
theorem dX12_place_110 : decode cX12_place 110 = .ok (.iload_n 2, 1) := by decide +kernel
theorem dX12_place_111 : decode cX12_place 111 = .ok (.lload_n 3, 1) := by decide +kernel
theorem dX12_place_112 : decode cX12_place 112 = .ok (.l2i, 1) := by decide +kernel
theorem dX12_place_113 : decode cX12_place 113 = .ok (.lload 5, 2) := by decide +kernel
theorem dX12_place_115 : decode cX12_place 115 = .ok (.l2i, 1) := by decide +kernel
theorem dX12_place_116 : decode cX12_place 116 = .ok (.iload 7, 2) := by decide +kernel
theorem dX12_place_118 : decode cX12_place 118 = .ok (.invokevirtual 185, 3) := by decide +kernel
theorem dX12_place_121 : decode cX12_place 121 = .ok (.ireturn, 1) := by decide +kernel
set_option maxRecDepth 20000 in
theorem ggX12_run_X12_hasRule : GoodIn wsX12_run wsX12_hasRule := goodIn_r _ [18, 19, 420, 421, 422, 423, 424, 425, 426, 427, 428, 429, 430, 431, 432] (by decide +kernel) (by decide +kernel)
set_option maxRecDepth 20000 in
theorem gX12_run_X12_hasRule : GoodIn wsX12_run (wsV RX12 189 RX12 yX12_hasRule wsX12_hasRule) := goodIn_app (goodIn_of _ (by decide +kernel)) ggX12_run_X12_hasRule
set_option maxRecDepth 20000 in
theorem ggX12_run_X3_hasCell : GoodIn wsX12_run wsX3_hasCell := goodIn_r _ [24, 25, 440, 441, 442, 443, 444, 445, 446, 447, 448, 449] (by decide +kernel) (by decide +kernel)
set_option maxRecDepth 20000 in
theorem gX12_run_X3_hasCell : GoodIn wsX12_run (wsV RX12 115 RX3 yX3_hasCell wsX3_hasCell) := goodIn_app (goodIn_of _ (by decide +kernel)) ggX12_run_X3_hasCell
theorem dX12_run_0 : decode cX12_run 0 = .ok (.aload_n 0, 1) := by decide +kernel
theorem dX12_run_1 : decode cX12_run 1 = .ok (.iload_n 1, 1) := by decide +kernel
theorem dX12_run_2 : decode cX12_run 2 = .ok (.invokevirtual 189, 3) := by decide +kernel
theorem dX12_run_5 : decode cX12_run 5 = .ok (.ifCond .eq 14, 3) := by decide +kernel
theorem dX12_run_8 : decode cX12_run 8 = .ok (.aload_n 0, 1) := by decide +kernel
theorem dX12_run_9 : decode cX12_run 9 = .ok (.getfield 15, 3) := by decide +kernel
theorem dX12_run_12 : decode cX12_run 12 = .ok (.iload_n 2, 1) := by decide +kernel
theorem dX12_run_13 : decode cX12_run 13 = .ok (.invokevirtual 115, 3) := by decide +kernel
theorem dX12_run_16 : decode cX12_run 16 = .ok (.ifCond .ne 13, 3) := by decide +kernel
theorem dX12_run_19 : decode cX12_run 19 = .ok (.new 121, 3) := by decide +kernel
theorem dX12_run_22 : decode cX12_run 22 = .ok (.dup, 1) := by decide +kernel
theorem dX12_run_23 : decode cX12_run 23 = .ok (.ldc 192, 2) := by decide +kernel
theorem dX12_run_25 : decode cX12_run 25 = .ok (.invokespecial 125, 3) := by decide +kernel
theorem dX12_run_28 : decode cX12_run 28 = .ok (.athrow, 1) := by decide +kernel
theorem dX12_run_29 : decode cX12_run 29 = .ok (.aload_n 0, 1) := by decide +kernel
theorem dX12_run_30 : decode cX12_run 30 = .ok (.getfield 40, 3) := by decide +kernel
theorem dX12_run_33 : decode cX12_run 33 = .ok (.aload_n 0, 1) := by decide +kernel
theorem dX12_run_34 : decode cX12_run 34 = .ok (.getfield 53, 3) := by decide +kernel
theorem dX12_run_37 : decode cX12_run 37 = .ok (.iload_n 1, 1) := by decide +kernel
theorem dX12_run_38 : decode cX12_run 38 = .ok (.aaload, 1) := by decide +kernel
theorem dX12_run_39 : decode cX12_run 39 = .ok (.iload_n 2, 1) := by decide +kernel
theorem dX12_run_40 : decode cX12_run 40 = .ok (.aload_n 0, 1) := by decide +kernel
theorem dX12_run_41 : decode cX12_run 41 = .ok (.getfield 65, 3) := by decide +kernel
theorem dX12_run_44 : decode cX12_run 44 = .ok (.invokevirtual 194, 3) := by decide +kernel
theorem dX12_run_47 : decode cX12_run 47 = .ok (.istore 4, 2) := by decide +kernel
theorem dX12_run_49 : decode cX12_run 49 = .ok (.iload 4, 2) := by decide +kernel
theorem dX12_run_51 : decode cX12_run 51 = .ok (.ifCond .eq 26, 3) := by decide +kernel
theorem dX12_run_54 : decode cX12_run 54 = .ok (.iload_n 3, 1) := by decide +kernel
theorem dX12_run_55 : decode cX12_run 55 = .ok (.ifCond .eq 32, 3) := by decide +kernel
theorem dX12_run_58 : decode cX12_run 58 = .ok (.aload_n 0, 1) := by decide +kernel
theorem dX12_run_59 : decode cX12_run 59 = .ok (.getfield 40, 3) := by decide +kernel
theorem dX12_run_62 : decode cX12_run 62 = .ok (.aload_n 0, 1) := by decide +kernel
theorem dX12_run_63 : decode cX12_run 63 = .ok (.getfield 65, 3) := by decide +kernel
theorem dX12_run_66 : decode cX12_run 66 = .ok (.iload_n 2, 1) := by decide +kernel
theorem dX12_run_67 : decode cX12_run 67 = .ok (.aload_n 0, 1) := by decide +kernel
theorem dX12_run_68 : decode cX12_run 68 = .ok (.getfield 68, 3) := by decide +kernel
theorem dX12_run_71 : decode cX12_run 71 = .ok (.invokevirtual 198, 3) := by decide +kernel
theorem dX12_run_74 : decode cX12_run 74 = .ok (.ifCond .ne 13, 3) := by decide +kernel
theorem dX12_run_77 : decode cX12_run 77 = .ok (.new 202, 3) := by decide +kernel
theorem dX12_run_80 : decode cX12_run 80 = .ok (.dup, 1) := by decide +kernel
theorem dX12_run_81 : decode cX12_run 81 = .ok (.ldc 204, 2) := by decide +kernel
theorem dX12_run_83 : decode cX12_run 83 = .ok (.invokespecial 206, 3) := by decide +kernel
theorem dX12_run_86 : decode cX12_run 86 = .ok (.athrow, 1) := by decide +kernel
theorem dX12_run_87 : decode cX12_run 87 = .ok (.aload_n 0, 1) := by decide +kernel
theorem dX12_run_88 : decode cX12_run 88 = .ok (.getfield 61, 3) := by decide +kernel
theorem dX12_run_91 : decode cX12_run 91 = .ok (.astore 5, 2) := by decide +kernel
theorem dX12_run_93 : decode cX12_run 93 = .ok (.iload_n 3, 1) := by decide +kernel
theorem dX12_run_94 : decode cX12_run 94 = .ok (.ifCond .eq 25, 3) := by decide +kernel
theorem dX12_run_97 : decode cX12_run 97 = .ok (.aload_n 0, 1) := by decide +kernel
theorem dX12_run_98 : decode cX12_run 98 = .ok (.iload_n 1, 1) := by decide +kernel
theorem dX12_run_99 : decode cX12_run 99 = .ok (.invokevirtual 207, 3) := by decide +kernel
theorem dX12_run_102 : decode cX12_run 102 = .ok (.aload_n 0, 1) := by decide +kernel
theorem dX12_run_103 : decode cX12_run 103 = .ok (.aload_n 0, 1) := by decide +kernel
theorem dX12_run_104 : decode cX12_run 104 = .ok (.getfield 68, 3) := by decide +kernel
theorem dX12_run_107 : decode cX12_run 107 = .ok (.putfield 61, 3) := by decide +kernel
theorem dX12_run_110 : decode cX12_run 110 = .ok (.aload_n 0, 1) := by decide +kernel
theorem dX12_run_111 : decode cX12_run 111 = .ok (.aload 5, 2) := by decide +kernel
theorem dX12_run_113 : decode cX12_run 113 = .ok (.putfield 68, 3) := by decide +kernel
theorem dX12_run_116 : decode cX12_run 116 = .ok (.goto 22, 3) := by decide +kernel
theorem dX12_run_119 : decode cX12_run 119 = .ok (.aload_n 0, 1) := by decide +kernel
theorem dX12_run_120 : decode cX12_run 120 = .ok (.iload_n 1, 1) := by decide +kernel
theorem dX12_run_121 : decode cX12_run 121 = .ok (.invokevirtual 210, 3) := by decide +kernel
theorem dX12_run_124 : decode cX12_run 124 = .ok (.aload_n 0, 1) := by decide +kernel
theorem dX12_run_125 : decode cX12_run 125 = .ok (.aload_n 0, 1) := by decide +kernel
theorem dX12_run_126 : decode cX12_run 126 = .ok (.getfield 65, 3) := by decide +kernel
theorem dX12_run_129 : decode cX12_run 129 = .ok (.putfield 61, 3) := by decide +kernel
theorem dX12_run_132 : decode cX12_run 132 = .ok (.aload_n 0, 1) := by decide +kernel
theorem dX12_run_133 : decode cX12_run 133 = .ok (.aload 5, 2) := by decide +kernel
theorem dX12_run_135 : decode cX12_run 135 = .ok (.putfield 65, 3) := by decide +kernel
theorem dX12_run_138 : decode cX12_run 138 = .ok (.aload_n 0, 1) := by decide +kernel
theorem dX12_run_139 : decode cX12_run 139 = .ok (.iload_n 1, 1) := by decide +kernel
theorem dX12_run_140 : decode cX12_run 140 = .ok (.putfield 213, 3) := by decide +kernel
theorem dX12_run_143 : decode cX12_run 143 = .ok (.aload_n 0, 1) := by decide +kernel
theorem dX12_run_144 : decode cX12_run 144 = .ok (.iload_n 3, 1) := by decide +kernel
theorem dX12_run_145 : decode cX12_run 145 = .ok (.putfield 99, 3) := by decide +kernel
theorem dX12_run_148 : decode cX12_run 148 = .ok (.aload_n 0, 1) := by decide +kernel
theorem dX12_run_149 : decode cX12_run 149 = .ok (.getfield 61, 3) := by decide +kernel
theorem dX12_run_152 : decode cX12_run 152 = .ok (.getfield 216, 3) := by decide +kernel
theorem dX12_run_155 : decode cX12_run 155 = .ok (.ireturn, 1) := by decide +kernel
set_option maxRecDepth 20000 in
theorem ggX12_violation_X10_has : GoodIn wsX12_violation wsX10_has := goodIn_r _ [8, 9, 29, 30, 31, 32, 33, 34, 35] (by decide +kernel) (by decide +kernel)
set_option maxRecDepth 20000 in
theorem gX12_violation_X10_has : GoodIn wsX12_violation (wsV RX12 217 RX10 yX10_has wsX10_has) := goodIn_app (goodIn_of _ (by decide +kernel)) ggX12_violation_X10_has
theorem dX12_violation_0 : decode cX12_violation 0 = .ok (.aload_n 0, 1) := by decide +kernel
theorem dX12_violation_1 : decode cX12_violation 1 = .ok (.getfield 61, 3) := by decide +kernel
theorem dX12_violation_4 : decode cX12_violation 4 = .ok (.iload_n 1, 1) := by decide +kernel
theorem dX12_violation_5 : decode cX12_violation 5 = .ok (.invokevirtual 217, 3) := by decide +kernel
theorem dX12_violation_8 : decode cX12_violation 8 = .ok (.ifCond .eq 13, 3) := by decide +kernel
theorem dX12_violation_11 : decode cX12_violation 11 = .ok (.iload_n 2, 1) := by decide +kernel
theorem dX12_violation_12 : decode cX12_violation 12 = .ok (.ifCond .lt 9, 3) := by decide +kernel
theorem dX12_violation_15 : decode cX12_violation 15 = .ok (.iload_n 2, 1) := by decide +kernel
theorem dX12_violation_16 : decode cX12_violation 16 = .ok (.bipush 6, 2) := by decide +kernel
theorem dX12_violation_18 : decode cX12_violation 18 = .ok (.if_icmp .le 13, 3) := by decide +kernel
theorem dX12_violation_21 : decode cX12_violation 21 = .ok (.new 121, 3) := by decide +kernel
theorem dX12_violation_24 : decode cX12_violation 24 = .ok (.dup, 1) := by decide +kernel
theorem dX12_violation_25 : decode cX12_violation 25 = .ok (.ldc 220, 2) := by decide +kernel
theorem dX12_violation_27 : decode cX12_violation 27 = .ok (.invokespecial 125, 3) := by decide +kernel
theorem dX12_violation_30 : decode cX12_violation 30 = .ok (.athrow, 1) := by decide +kernel
theorem dX12_violation_31 : decode cX12_violation 31 = .ok (.aload_n 0, 1) := by decide +kernel
theorem dX12_violation_32 : decode cX12_violation 32 = .ok (.getfield 61, 3) := by decide +kernel
theorem dX12_violation_35 : decode cX12_violation 35 = .ok (.iload_n 1, 1) := by decide +kernel
theorem dX12_violation_36 : decode cX12_violation 36 = .ok (.iload_n 2, 1) := by decide +kernel
theorem dX12_violation_37 : decode cX12_violation 37 = .ok (.invokevirtual 222, 3) := by decide +kernel
theorem dX12_violation_40 : decode cX12_violation 40 = .ok (.lreturn, 1) := by decide +kernel
set_option maxRecDepth 20000 in
theorem ggX12_cellOf_X10_has : GoodIn wsX12_cellOf wsX10_has := goodIn_r _ [8, 9, 29, 30, 31, 32, 33, 34, 35] (by decide +kernel) (by decide +kernel)
set_option maxRecDepth 20000 in
theorem gX12_cellOf_X10_has : GoodIn wsX12_cellOf (wsV RX12 217 RX10 yX10_has wsX10_has) := goodIn_app (goodIn_of _ (by decide +kernel)) ggX12_cellOf_X10_has
theorem dX12_cellOf_0 : decode cX12_cellOf 0 = .ok (.aload_n 0, 1) := by decide +kernel
theorem dX12_cellOf_1 : decode cX12_cellOf 1 = .ok (.getfield 61, 3) := by decide +kernel
theorem dX12_cellOf_4 : decode cX12_cellOf 4 = .ok (.iload_n 1, 1) := by decide +kernel
theorem dX12_cellOf_5 : decode cX12_cellOf 5 = .ok (.invokevirtual 217, 3) := by decide +kernel
theorem dX12_cellOf_8 : decode cX12_cellOf 8 = .ok (.ifCond .ne 13, 3) := by decide +kernel
theorem dX12_cellOf_11 : decode cX12_cellOf 11 = .ok (.new 121, 3) := by decide +kernel
theorem dX12_cellOf_14 : decode cX12_cellOf 14 = .ok (.dup, 1) := by decide +kernel
theorem dX12_cellOf_15 : decode cX12_cellOf 15 = .ok (.ldc 226, 2) := by decide +kernel
theorem dX12_cellOf_17 : decode cX12_cellOf 17 = .ok (.invokespecial 125, 3) := by decide +kernel
theorem dX12_cellOf_20 : decode cX12_cellOf 20 = .ok (.athrow, 1) := by decide +kernel
theorem dX12_cellOf_21 : decode cX12_cellOf 21 = .ok (.aload_n 0, 1) := by decide +kernel
theorem dX12_cellOf_22 : decode cX12_cellOf 22 = .ok (.getfield 61, 3) := by decide +kernel
theorem dX12_cellOf_25 : decode cX12_cellOf 25 = .ok (.iload_n 1, 1) := by decide +kernel
theorem dX12_cellOf_26 : decode cX12_cellOf 26 = .ok (.bipush 7, 2) := by decide +kernel
theorem dX12_cellOf_28 : decode cX12_cellOf 28 = .ok (.invokevirtual 222, 3) := by decide +kernel
theorem dX12_cellOf_31 : decode cX12_cellOf 31 = .ok (.l2i, 1) := by decide +kernel
theorem dX12_cellOf_32 : decode cX12_cellOf 32 = .ok (.ireturn, 1) := by decide +kernel
set_option maxRecDepth 20000 in
theorem ggX12_waive_X10_has : GoodIn wsX12_waive wsX10_has := goodIn_r _ [13, 14, 61, 62, 63, 64, 65, 66, 67] (by decide +kernel) (by decide +kernel)
set_option maxRecDepth 20000 in
theorem gX12_waive_X10_has : GoodIn wsX12_waive (wsV RX12 217 RX10 yX10_has wsX10_has) := goodIn_app (goodIn_of _ (by decide +kernel)) ggX12_waive_X10_has
theorem dX12_waive_0 : decode cX12_waive 0 = .ok (.aload_n 0, 1) := by decide +kernel
theorem dX12_waive_1 : decode cX12_waive 1 = .ok (.getfield 61, 3) := by decide +kernel
theorem dX12_waive_4 : decode cX12_waive 4 = .ok (.iload_n 1, 1) := by decide +kernel
theorem dX12_waive_5 : decode cX12_waive 5 = .ok (.invokevirtual 217, 3) := by decide +kernel
theorem dX12_waive_8 : decode cX12_waive 8 = .ok (.ifCond .ne 13, 3) := by decide +kernel
theorem dX12_waive_11 : decode cX12_waive 11 = .ok (.new 121, 3) := by decide +kernel
theorem dX12_waive_14 : decode cX12_waive 14 = .ok (.dup, 1) := by decide +kernel
theorem dX12_waive_15 : decode cX12_waive 15 = .ok (.ldc 226, 2) := by decide +kernel
theorem dX12_waive_17 : decode cX12_waive 17 = .ok (.invokespecial 125, 3) := by decide +kernel
theorem dX12_waive_20 : decode cX12_waive 20 = .ok (.athrow, 1) := by decide +kernel
theorem dX12_waive_21 : decode cX12_waive 21 = .ok (.aload_n 0, 1) := by decide +kernel
theorem dX12_waive_22 : decode cX12_waive 22 = .ok (.getfield 47, 3) := by decide +kernel
theorem dX12_waive_25 : decode cX12_waive 25 = .ok (.aload_n 0, 1) := by decide +kernel
theorem dX12_waive_26 : decode cX12_waive 26 = .ok (.getfield 213, 3) := by decide +kernel
theorem dX12_waive_29 : decode cX12_waive 29 = .ok (.aload_n 0, 1) := by decide +kernel
theorem dX12_waive_30 : decode cX12_waive 30 = .ok (.getfield 61, 3) := by decide +kernel
theorem dX12_waive_33 : decode cX12_waive 33 = .ok (.iload_n 1, 1) := by decide +kernel
theorem dX12_waive_34 : decode cX12_waive 34 = .ok (.invokevirtual 228, 3) := by decide +kernel
theorem dX12_waive_37 : decode cX12_waive 37 = .ok (.ifCond .eq 5, 3) := by decide +kernel
theorem dX12_waive_40 : decode cX12_waive 40 = .ok (.iconst 0, 1) := by decide +kernel
theorem dX12_waive_41 : decode cX12_waive 41 = .ok (.ireturn, 1) := by decide +kernel
theorem dX12_waive_42 : decode cX12_waive 42 = .ok (.aload_n 0, 1) := by decide +kernel
theorem dX12_waive_43 : decode cX12_waive 43 = .ok (.getfield 47, 3) := by decide +kernel
theorem dX12_waive_46 : decode cX12_waive 46 = .ok (.getfield 232, 3) := by decide +kernel
theorem dX12_waive_49 : decode cX12_waive 49 = .ok (.bipush 40, 2) := by decide +kernel
theorem dX12_waive_51 : decode cX12_waive 51 = .ok (.if_icmp .lt 13, 3) := by decide +kernel
theorem dX12_waive_54 : decode cX12_waive 54 = .ok (.new 108, 3) := by decide +kernel
theorem dX12_waive_57 : decode cX12_waive 57 = .ok (.dup, 1) := by decide +kernel
theorem dX12_waive_58 : decode cX12_waive 58 = .ok (.ldc 233, 2) := by decide +kernel
theorem dX12_waive_60 : decode cX12_waive 60 = .ok (.invokespecial 112, 3) := by decide +kernel
theorem dX12_waive_63 : decode cX12_waive 63 = .ok (.athrow, 1) := by decide +kernel
theorem dX12_waive_64 : decode cX12_waive 64 = .ok (.aload_n 0, 1) := by decide +kernel
theorem dX12_waive_65 : decode cX12_waive 65 = .ok (.getfield 47, 3) := by decide +kernel
theorem dX12_waive_68 : decode cX12_waive 68 = .ok (.aload_n 0, 1) := by decide +kernel
theorem dX12_waive_69 : decode cX12_waive 69 = .ok (.getfield 213, 3) := by decide +kernel
theorem dX12_waive_72 : decode cX12_waive 72 = .ok (.aload_n 0, 1) := by decide +kernel
theorem dX12_waive_73 : decode cX12_waive 73 = .ok (.getfield 61, 3) := by decide +kernel
theorem dX12_waive_76 : decode cX12_waive 76 = .ok (.iload_n 1, 1) := by decide +kernel
theorem dX12_waive_77 : decode cX12_waive 77 = .ok (.invokevirtual 235, 3) := by decide +kernel
theorem dX12_waive_80 : decode cX12_waive 80 = .ok (.iconst 1, 1) := by decide +kernel
theorem dX12_waive_81 : decode cX12_waive 81 = .ok (.ireturn, 1) := by decide +kernel
theorem dX12_changed_0 : decode cX12_changed 0 = .ok (.aload_n 0, 1) := by decide +kernel
theorem dX12_changed_1 : decode cX12_changed 1 = .ok (.getfield 99, 3) := by decide +kernel
theorem dX12_changed_4 : decode cX12_changed 4 = .ok (.ifCond .ne 13, 3) := by decide +kernel
theorem dX12_changed_7 : decode cX12_changed 7 = .ok (.new 108, 3) := by decide +kernel
theorem dX12_changed_10 : decode cX12_changed 10 = .ok (.dup, 1) := by decide +kernel
theorem dX12_changed_11 : decode cX12_changed 11 = .ok (.ldc 239, 2) := by decide +kernel
theorem dX12_changed_13 : decode cX12_changed 13 = .ok (.invokespecial 112, 3) := by decide +kernel
theorem dX12_changed_16 : decode cX12_changed 16 = .ok (.athrow, 1) := by decide +kernel
theorem dX12_changed_17 : decode cX12_changed 17 = .ok (.lload_n 1, 1) := by decide +kernel
theorem dX12_changed_18 : decode cX12_changed 18 = .ok (.lload 5, 2) := by decide +kernel
theorem dX12_changed_20 : decode cX12_changed 20 = .ok (.lcmp, 1) := by decide +kernel
theorem dX12_changed_21 : decode cX12_changed 21 = .ok (.ifCond .gt 10, 3) := by decide +kernel
theorem dX12_changed_24 : decode cX12_changed 24 = .ok (.lload_n 3, 1) := by decide +kernel
theorem dX12_changed_25 : decode cX12_changed 25 = .ok (.lload 7, 2) := by decide +kernel
theorem dX12_changed_27 : decode cX12_changed 27 = .ok (.lcmp, 1) := by decide +kernel
theorem dX12_changed_28 : decode cX12_changed 28 = .ok (.ifCond .le 13, 3) := by decide +kernel
theorem dX12_changed_31 : decode cX12_changed 31 = .ok (.new 155, 3) := by decide +kernel
theorem dX12_changed_34 : decode cX12_changed 34 = .ok (.dup, 1) := by decide +kernel
theorem dX12_changed_35 : decode cX12_changed 35 = .ok (.ldc 241, 2) := by decide +kernel
theorem dX12_changed_37 : decode cX12_changed 37 = .ok (.invokespecial 159, 3) := by decide +kernel
theorem dX12_changed_40 : decode cX12_changed 40 = .ok (.athrow, 1) := by decide +kernel
theorem dX12_changed_41 : decode cX12_changed 41 = .ok (.iconst 0, 1) := by decide +kernel
theorem dX12_changed_42 : decode cX12_changed 42 = .ok (.istore 9, 2) := by decide +kernel
theorem dX12_changed_44 : decode cX12_changed 44 = .ok (.iconst 0, 1) := by decide +kernel
theorem dX12_changed_45 : decode cX12_changed 45 = .ok (.istore 10, 2) := by decide +kernel
theorem dX12_changed_47 : decode cX12_changed 47 = .ok (.iload 10, 2) := by decide +kernel
theorem dX12_changed_49 : decode cX12_changed 49 = .ok (.aload_n 0, 1) := by decide +kernel
theorem dX12_changed_50 : decode cX12_changed 50 = .ok (.getfield 61, 3) := by decide +kernel
theorem dX12_changed_53 : decode cX12_changed 53 = .ok (.getfield 216, 3) := by decide +kernel
theorem dX12_changed_56 : decode cX12_changed 56 = .ok (.if_icmp .ge 98, 3) := by decide +kernel
theorem dX12_changed_59 : decode cX12_changed 59 = .ok (.aload_n 0, 1) := by decide +kernel
theorem dX12_changed_60 : decode cX12_changed 60 = .ok (.getfield 61, 3) := by decide +kernel
theorem dX12_changed_63 : decode cX12_changed 63 = .ok (.iload 10, 2) := by decide +kernel
theorem dX12_changed_65 : decode cX12_changed 65 = .ok (.iconst 0, 1) := by decide +kernel
theorem dX12_changed_66 : decode cX12_changed 66 = .ok (.invokevirtual 222, 3) := by decide +kernel
theorem dX12_changed_69 : decode cX12_changed 69 = .ok (.lload 5, 2) := by decide +kernel
theorem dX12_changed_71 : decode cX12_changed 71 = .ok (.lcmp, 1) := by decide +kernel
theorem dX12_changed_72 : decode cX12_changed 72 = .ok (.ifCond .gt 18, 3) := by decide +kernel
theorem dX12_changed_75 : decode cX12_changed 75 = .ok (.aload_n 0, 1) := by decide +kernel
theorem dX12_changed_76 : decode cX12_changed 76 = .ok (.getfield 61, 3) := by decide +kernel
theorem dX12_changed_79 : decode cX12_changed 79 = .ok (.iload 10, 2) := by decide +kernel
theorem dX12_changed_81 : decode cX12_changed 81 = .ok (.iconst 2, 1) := by decide +kernel
theorem dX12_changed_82 : decode cX12_changed 82 = .ok (.invokevirtual 222, 3) := by decide +kernel
theorem dX12_changed_85 : decode cX12_changed 85 = .ok (.lload_n 1, 1) := by decide +kernel
theorem dX12_changed_86 : decode cX12_changed 86 = .ok (.lcmp, 1) := by decide +kernel
theorem dX12_changed_87 : decode cX12_changed 87 = .ok (.ifCond .ge 7, 3) := by decide +kernel
theorem dX12_changed_90 : decode cX12_changed 90 = .ok (.iconst 1, 1) := by decide +kernel
theorem dX12_changed_91 : decode cX12_changed 91 = .ok (.goto 4, 3) := by decide +kernel
theorem dX12_changed_94 : decode cX12_changed 94 = .ok (.iconst 0, 1) := by decide +kernel
theorem dX12_changed_95 : decode cX12_changed 95 = .ok (.istore 11, 2) := by decide +kernel
theorem dX12_changed_97 : decode cX12_changed 97 = .ok (.aload_n 0, 1) := by decide +kernel
theorem dX12_changed_98 : decode cX12_changed 98 = .ok (.getfield 61, 3) := by decide +kernel
theorem dX12_changed_101 : decode cX12_changed 101 = .ok (.iload 10, 2) := by decide +kernel
theorem dX12_changed_103 : decode cX12_changed 103 = .ok (.iconst 1, 1) := by decide +kernel
theorem dX12_changed_104 : decode cX12_changed 104 = .ok (.invokevirtual 222, 3) := by decide +kernel
theorem dX12_changed_107 : decode cX12_changed 107 = .ok (.lload 7, 2) := by decide +kernel
theorem dX12_changed_109 : decode cX12_changed 109 = .ok (.lcmp, 1) := by decide +kernel
theorem dX12_changed_110 : decode cX12_changed 110 = .ok (.ifCond .gt 18, 3) := by decide +kernel
theorem dX12_changed_113 : decode cX12_changed 113 = .ok (.aload_n 0, 1) := by decide +kernel
theorem dX12_changed_114 : decode cX12_changed 114 = .ok (.getfield 61, 3) := by decide +kernel
theorem dX12_changed_117 : decode cX12_changed 117 = .ok (.iload 10, 2) := by decide +kernel
theorem dX12_changed_119 : decode cX12_changed 119 = .ok (.iconst 3, 1) := by decide +kernel
theorem dX12_changed_120 : decode cX12_changed 120 = .ok (.invokevirtual 222, 3) := by decide +kernel
theorem dX12_changed_123 : decode cX12_changed 123 = .ok (.lload_n 3, 1) := by decide +kernel
theorem dX12_changed_124 : decode cX12_changed 124 = .ok (.lcmp, 1) := by decide +kernel
theorem dX12_changed_125 : decode cX12_changed 125 = .ok (.ifCond .ge 7, 3) := by decide +kernel
theorem dX12_changed_128 : decode cX12_changed 128 = .ok (.iconst 1, 1) := by decide +kernel
theorem dX12_changed_129 : decode cX12_changed 129 = .ok (.goto 4, 3) := by decide +kernel
theorem dX12_changed_132 : decode cX12_changed 132 = .ok (.iconst 0, 1) := by decide +kernel
theorem dX12_changed_133 : decode cX12_changed 133 = .ok (.istore 12, 2) := by decide +kernel
theorem dX12_changed_135 : decode cX12_changed 135 = .ok (.iload 11, 2) := by decide +kernel
theorem dX12_changed_137 : decode cX12_changed 137 = .ok (.ifCond .ne 11, 3) := by decide +kernel
theorem dX12_changed_140 : decode cX12_changed 140 = .ok (.iload 12, 2) := by decide +kernel
theorem dX12_changed_142 : decode cX12_changed 142 = .ok (.ifCond .ne 6, 3) := by decide +kernel
theorem dX12_changed_145 : decode cX12_changed 145 = .ok (.iinc 9 1, 3) := by decide +kernel
theorem dX12_changed_148 : decode cX12_changed 148 = .ok (.iinc 10 1, 3) := by decide +kernel
theorem dX12_changed_151 : decode cX12_changed 151 = .ok (.goto (-104), 3) := by decide +kernel
theorem dX12_changed_154 : decode cX12_changed 154 = .ok (.iload 9, 2) := by decide +kernel
theorem dX12_changed_156 : decode cX12_changed 156 = .ok (.ireturn, 1) := by decide +kernel
set_option maxRecDepth 20000 in
theorem ggX12_same_X12_hasRule : GoodIn wsX12_same wsX12_hasRule := goodIn_r _ [15, 16, 429, 430, 431, 432, 433, 434, 435, 436, 437, 438, 439, 440, 441] (by decide +kernel) (by decide +kernel)
set_option maxRecDepth 20000 in
theorem gX12_same_X12_hasRule : GoodIn wsX12_same (wsV RX12 189 RX12 yX12_hasRule wsX12_hasRule) := goodIn_app (goodIn_of _ (by decide +kernel)) ggX12_same_X12_hasRule
set_option maxRecDepth 20000 in
theorem ggX12_same_X3_hasCell : GoodIn wsX12_same wsX3_hasCell := goodIn_r _ [21, 22, 442, 443, 444, 445, 446, 447, 448, 449, 450, 451] (by decide +kernel) (by decide +kernel)
set_option maxRecDepth 20000 in
theorem gX12_same_X3_hasCell : GoodIn wsX12_same (wsV RX12 115 RX3 yX3_hasCell wsX3_hasCell) := goodIn_app (goodIn_of _ (by decide +kernel)) ggX12_same_X3_hasCell
theorem dX12_same_0 : decode cX12_same 0 = .ok (.aload_n 0, 1) := by decide +kernel
theorem dX12_same_1 : decode cX12_same 1 = .ok (.iload_n 1, 1) := by decide +kernel
theorem dX12_same_2 : decode cX12_same 2 = .ok (.invokevirtual 189, 3) := by decide +kernel
theorem dX12_same_5 : decode cX12_same 5 = .ok (.ifCond .eq 14, 3) := by decide +kernel
theorem dX12_same_8 : decode cX12_same 8 = .ok (.aload_n 0, 1) := by decide +kernel
theorem dX12_same_9 : decode cX12_same 9 = .ok (.getfield 15, 3) := by decide +kernel
theorem dX12_same_12 : decode cX12_same 12 = .ok (.iload_n 2, 1) := by decide +kernel
theorem dX12_same_13 : decode cX12_same 13 = .ok (.invokevirtual 115, 3) := by decide +kernel
theorem dX12_same_16 : decode cX12_same 16 = .ok (.ifCond .ne 13, 3) := by decide +kernel
theorem dX12_same_19 : decode cX12_same 19 = .ok (.new 121, 3) := by decide +kernel
theorem dX12_same_22 : decode cX12_same 22 = .ok (.dup, 1) := by decide +kernel
theorem dX12_same_23 : decode cX12_same 23 = .ok (.ldc 192, 2) := by decide +kernel
theorem dX12_same_25 : decode cX12_same 25 = .ok (.invokespecial 125, 3) := by decide +kernel
theorem dX12_same_28 : decode cX12_same 28 = .ok (.athrow, 1) := by decide +kernel
theorem dX12_same_29 : decode cX12_same 29 = .ok (.aload_n 0, 1) := by decide +kernel
theorem dX12_same_30 : decode cX12_same 30 = .ok (.getfield 40, 3) := by decide +kernel
theorem dX12_same_33 : decode cX12_same 33 = .ok (.aload_n 0, 1) := by decide +kernel
theorem dX12_same_34 : decode cX12_same 34 = .ok (.getfield 53, 3) := by decide +kernel
theorem dX12_same_37 : decode cX12_same 37 = .ok (.iload_n 1, 1) := by decide +kernel
theorem dX12_same_38 : decode cX12_same 38 = .ok (.aaload, 1) := by decide +kernel
theorem dX12_same_39 : decode cX12_same 39 = .ok (.iload_n 2, 1) := by decide +kernel
theorem dX12_same_40 : decode cX12_same 40 = .ok (.aload_n 0, 1) := by decide +kernel
theorem dX12_same_41 : decode cX12_same 41 = .ok (.getfield 65, 3) := by decide +kernel
theorem dX12_same_44 : decode cX12_same 44 = .ok (.invokevirtual 194, 3) := by decide +kernel
theorem dX12_same_47 : decode cX12_same 47 = .ok (.istore_n 3, 1) := by decide +kernel
theorem dX12_same_48 : decode cX12_same 48 = .ok (.iload_n 3, 1) := by decide +kernel
theorem dX12_same_49 : decode cX12_same 49 = .ok (.ifCond .eq 22, 3) := by decide +kernel
theorem dX12_same_52 : decode cX12_same 52 = .ok (.aload_n 0, 1) := by decide +kernel
theorem dX12_same_53 : decode cX12_same 53 = .ok (.getfield 40, 3) := by decide +kernel
theorem dX12_same_56 : decode cX12_same 56 = .ok (.aload_n 0, 1) := by decide +kernel
theorem dX12_same_57 : decode cX12_same 57 = .ok (.getfield 65, 3) := by decide +kernel
theorem dX12_same_60 : decode cX12_same 60 = .ok (.iload_n 2, 1) := by decide +kernel
theorem dX12_same_61 : decode cX12_same 61 = .ok (.aload_n 0, 1) := by decide +kernel
theorem dX12_same_62 : decode cX12_same 62 = .ok (.getfield 68, 3) := by decide +kernel
theorem dX12_same_65 : decode cX12_same 65 = .ok (.invokevirtual 198, 3) := by decide +kernel
theorem dX12_same_68 : decode cX12_same 68 = .ok (.ifCond .ne 13, 3) := by decide +kernel
theorem dX12_same_71 : decode cX12_same 71 = .ok (.new 202, 3) := by decide +kernel
theorem dX12_same_74 : decode cX12_same 74 = .ok (.dup, 1) := by decide +kernel
theorem dX12_same_75 : decode cX12_same 75 = .ok (.ldc 204, 2) := by decide +kernel
theorem dX12_same_77 : decode cX12_same 77 = .ok (.invokespecial 206, 3) := by decide +kernel
theorem dX12_same_80 : decode cX12_same 80 = .ok (.athrow, 1) := by decide +kernel
theorem dX12_same_81 : decode cX12_same 81 = .ok (.aload_n 0, 1) := by decide +kernel
theorem dX12_same_82 : decode cX12_same 82 = .ok (.iload_n 1, 1) := by decide +kernel
theorem dX12_same_83 : decode cX12_same 83 = .ok (.invokevirtual 207, 3) := by decide +kernel
theorem dX12_same_86 : decode cX12_same 86 = .ok (.aload_n 0, 1) := by decide +kernel
theorem dX12_same_87 : decode cX12_same 87 = .ok (.iload_n 1, 1) := by decide +kernel
theorem dX12_same_88 : decode cX12_same 88 = .ok (.invokevirtual 210, 3) := by decide +kernel
theorem dX12_same_91 : decode cX12_same 91 = .ok (.aload_n 0, 1) := by decide +kernel
theorem dX12_same_92 : decode cX12_same 92 = .ok (.getfield 40, 3) := by decide +kernel
theorem dX12_same_95 : decode cX12_same 95 = .ok (.aload_n 0, 1) := by decide +kernel
theorem dX12_same_96 : decode cX12_same 96 = .ok (.getfield 65, 3) := by decide +kernel
theorem dX12_same_99 : decode cX12_same 99 = .ok (.iload_n 2, 1) := by decide +kernel
theorem dX12_same_100 : decode cX12_same 100 = .ok (.aload_n 0, 1) := by decide +kernel
theorem dX12_same_101 : decode cX12_same 101 = .ok (.getfield 71, 3) := by decide +kernel
theorem dX12_same_104 : decode cX12_same 104 = .ok (.invokevirtual 198, 3) := by decide +kernel
theorem dX12_same_107 : decode cX12_same 107 = .ok (.pop, 1) := by decide +kernel
theorem dX12_same_108 : decode cX12_same 108 = .ok (.aload_n 0, 1) := by decide +kernel
theorem dX12_same_109 : decode cX12_same 109 = .ok (.getfield 71, 3) := by decide +kernel
theorem dX12_same_112 : decode cX12_same 112 = .ok (.iconst 0, 1) := by decide +kernel
theorem dX12_same_113 : decode cX12_same 113 = .ok (.invokevirtual 243, 3) := by decide +kernel
theorem dX12_same_116 : decode cX12_same 116 = .ok (.aload_n 0, 1) := by decide +kernel
theorem dX12_same_117 : decode cX12_same 117 = .ok (.getfield 71, 3) := by decide +kernel
theorem dX12_same_120 : decode cX12_same 120 = .ok (.aload_n 0, 1) := by decide +kernel
theorem dX12_same_121 : decode cX12_same 121 = .ok (.getfield 68, 3) := by decide +kernel
theorem dX12_same_124 : decode cX12_same 124 = .ok (.invokevirtual 247, 3) := by decide +kernel
theorem dX12_same_127 : decode cX12_same 127 = .ok (.ireturn, 1) := by decide +kernel
theorem dX12_hasRule_0 : decode cX12_hasRule 0 = .ok (.iload_n 1, 1) := by decide +kernel
theorem dX12_hasRule_1 : decode cX12_hasRule 1 = .ok (.ifCond .lt 15, 3) := by decide +kernel
theorem dX12_hasRule_4 : decode cX12_hasRule 4 = .ok (.iload_n 1, 1) := by decide +kernel
theorem dX12_hasRule_5 : decode cX12_hasRule 5 = .ok (.aload_n 0, 1) := by decide +kernel
theorem dX12_hasRule_6 : decode cX12_hasRule 6 = .ok (.getfield 95, 3) := by decide +kernel
theorem dX12_hasRule_9 : decode cX12_hasRule 9 = .ok (.if_icmp .ge 7, 3) := by decide +kernel
theorem dX12_hasRule_12 : decode cX12_hasRule 12 = .ok (.iconst 1, 1) := by decide +kernel
theorem dX12_hasRule_13 : decode cX12_hasRule 13 = .ok (.goto 4, 3) := by decide +kernel
theorem dX12_hasRule_16 : decode cX12_hasRule 16 = .ok (.iconst 0, 1) := by decide +kernel
theorem dX12_hasRule_17 : decode cX12_hasRule 17 = .ok (.ireturn, 1) := by decide +kernel

abbrev mX12_hasRule : sv_M := (cX12_hasRule, 2, yX12_hasRule, wsX12_hasRule, (some .boolean), { frames := 0, cells := 0, slots := 0, locals := 0 }, [])
abbrev mX10_has : sv_M := (cX10_has, 2, yX10_has, wsX10_has, (some .boolean), { frames := 0, cells := 0, slots := 0, locals := 0 }, [])
abbrev mX12_polygon : sv_M := (cX12_polygon, 3, yX12_polygon, wsX12_polygon, (some .int), { frames := 100, cells := 6, slots := 100, locals := 5000 }, [])
abbrev mX12_corner : sv_M := (cX12_corner, 7, yX12_corner, wsX12_corner, (some .boolean), { frames := 100, cells := 6, slots := 100, locals := 5000 }, [])
abbrev mX12_voltage : sv_M := (cX12_voltage, 6, yX12_voltage, wsX12_voltage, (some .boolean), { frames := 100, cells := 6, slots := 100, locals := 5000 }, [])
abbrev mX12_place : sv_M := (cX12_place, 8, yX12_place, wsX12_place, (some .int), { frames := 100, cells := 6, slots := 100, locals := 5000 }, [])
abbrev mX12_run : sv_M := (cX12_run, 6, yX12_run, wsX12_run, (some .int), { frames := 100, cells := 6, slots := 100, locals := 5000 }, [])
abbrev mX12_same : sv_M := (cX12_same, 4, yX12_same, wsX12_same, (some .boolean), { frames := 100, cells := 6, slots := 100, locals := 5000 }, [])
abbrev mX12_violation : sv_M := (cX12_violation, 3, yX12_violation, wsX12_violation, (some .long), { frames := 100, cells := 6, slots := 100, locals := 5000 }, [])
abbrev mX12_cellOf : sv_M := (cX12_cellOf, 2, yX12_cellOf, wsX12_cellOf, (some .int), { frames := 100, cells := 6, slots := 100, locals := 5000 }, [])
abbrev mX12_waive : sv_M := (cX12_waive, 2, yX12_waive, wsX12_waive, (some .boolean), { frames := 100, cells := 6, slots := 100, locals := 5000 }, [])
abbrev mX12_changed : sv_M := (cX12_changed, 13, yX12_changed, wsX12_changed, (some .int), { frames := 100, cells := 6, slots := 100, locals := 5000 }, [])
abbrev mX12_occurrences : sv_M := (cX12_occurrences, 3, yX12_occurrences, wsX12_occurrences, (some .int), { frames := 100, cells := 6, slots := 100, locals := 5000 }, [])
set_option maxHeartbeats 4000000 in
set_option maxRecDepth 100000 in
theorem c_hasRule (G : sv_G) (h : sv_h) (z b : Nat) (c : Int32) (ly tp rd ck wv ru la fo fl lo : Nat) (rc lr lf : Int32) (hb : h b = some (.inr (10, [.ref ly, .ref tp, .ref rd, .ref ck, .ref wv, .ref ru, .int rc, .int lr, .int lf, .ref la, .ref fo, .ref fl, .ref lo]))) : CT G mX12_hasRule [.ref b, .int c] h z (fun v h1 z1 => v = some (.int (if 0 ≤ c ∧ c < rc then 1 else 0)) ∧ h1 = h ∧ z1 = z) := by
  refine CT.of (by decide +kernel) rfl rfl (Nat.le_of_ble_eq_true rfl) ?_
  refine v_iload_n dX12_hasRule_0 rfl 1 rfl ?_
  refine v_if_lt (tgt := 16) dX12_hasRule_1 (by decide) (fun c_1 => ?_) (fun c_1 => ?_)
  · refine v_iconst (v := 0) dX12_hasRule_16 (by decide) ?_
    exact v_iret rfl dX12_hasRule_17 (Nat.le_of_ble_eq_true rfl) (Nat.le_of_ble_eq_true rfl) rfl ⟨by simp only [Int32.lt_iff_toInt_lt, Int32.le_iff_toInt_le, sv_i0, sv_i1, sv_i2, sv_i3, sv_i4, sv_i5, sv_i6, sv_i7, sv_i8, sv_i9, sv_i10, sv_i16, sv_i17, sv_i20, sv_i32, sv_i40, sv_i64, sv_i100, sv_i126, sv_i255, sv_i600, sv_i1500, sv_i65536, sv_im1] at *; first | (rw [if_pos (by omega)]) | (rw [if_neg (by omega)]), rfl, rfl⟩
  · refine v_iload_n dX12_hasRule_4 rfl 1 rfl ?_
    refine v_aload_n dX12_hasRule_5 rfl 0 rfl ?_
    refine v_getf 6 (ci := 10) (C := RX12) (T := TX12) (N := 13) rfl iwX12_hasRule_X12 (Nat.le_of_ble_eq_true rfl) (by decide +kernel) dX12_hasRule_6 (by repeat (first | (with_reducible refine sv_us.trans ?_; exact rfl) | with_reducible assumption | with_reducible refine (sv_un (by omega)).trans ?_)) rfl ?_
    refine v_icmp_ge (tgt := 16) dX12_hasRule_9 (by decide) (fun c_9 => ?_) (fun c_9 => ?_)
    · refine v_iconst (v := 0) dX12_hasRule_16 (by decide) ?_
      exact v_iret rfl dX12_hasRule_17 (Nat.le_of_ble_eq_true rfl) (Nat.le_of_ble_eq_true rfl) rfl ⟨by simp only [Int32.lt_iff_toInt_lt, Int32.le_iff_toInt_le, sv_i0, sv_i1, sv_i2, sv_i3, sv_i4, sv_i5, sv_i6, sv_i7, sv_i8, sv_i9, sv_i10, sv_i16, sv_i17, sv_i20, sv_i32, sv_i40, sv_i64, sv_i100, sv_i126, sv_i255, sv_i600, sv_i1500, sv_i65536, sv_im1] at *; first | (rw [if_pos (by omega)]) | (rw [if_neg (by omega)]), rfl, rfl⟩
    · refine v_iconst (v := 1) dX12_hasRule_12 (by decide) ?_
      refine v_goto (tgt := 17) dX12_hasRule_13 (by decide) ?_
      exact v_iret rfl dX12_hasRule_17 (Nat.le_of_ble_eq_true rfl) (Nat.le_of_ble_eq_true rfl) rfl ⟨by simp only [Int32.lt_iff_toInt_lt, Int32.le_iff_toInt_le, sv_i0, sv_i1, sv_i2, sv_i3, sv_i4, sv_i5, sv_i6, sv_i7, sv_i8, sv_i9, sv_i10, sv_i16, sv_i17, sv_i20, sv_i32, sv_i40, sv_i64, sv_i100, sv_i126, sv_i255, sv_i600, sv_i1500, sv_i65536, sv_im1] at *; first | (rw [if_pos (by omega)]) | (rw [if_neg (by omega)]), rfl, rfl⟩

set_option maxHeartbeats 4000000 in
set_option maxRecDepth 100000 in
theorem c_Told_has (G : sv_G) (h : sv_h) (z t : Nat) (c : Int32) (ro od st : Nat) (us sz ov hm : Int32) (ht : h t = some (.inr (8, [.ref ro, .int us, .ref od, .ref st, .int sz, .int ov, .int hm]))) : CT G mX10_has [.ref t, .int c] h z (fun v h1 z1 => v = some (.int (if 0 ≤ c ∧ c < sz then 1 else 0)) ∧ h1 = h ∧ z1 = z) := by
  refine CT.of (by decide +kernel) rfl rfl (Nat.le_of_ble_eq_true rfl) ?_
  refine v_iload_n dX10_has_0 rfl 1 rfl ?_
  refine v_if_lt (tgt := 16) dX10_has_1 (by decide) (fun c_1 => ?_) (fun c_1 => ?_)
  · refine v_iconst (v := 0) dX10_has_16 (by decide) ?_
    exact v_iret rfl dX10_has_17 (Nat.le_of_ble_eq_true rfl) (Nat.le_of_ble_eq_true rfl) rfl ⟨by simp only [Int32.lt_iff_toInt_lt, Int32.le_iff_toInt_le, sv_i0, sv_i1, sv_i2, sv_i3, sv_i4, sv_i5, sv_i6, sv_i7, sv_i8, sv_i9, sv_i10, sv_i16, sv_i17, sv_i20, sv_i32, sv_i40, sv_i64, sv_i100, sv_i126, sv_i255, sv_i600, sv_i1500, sv_i65536, sv_im1] at *; first | (rw [if_pos (by omega)]) | (rw [if_neg (by omega)]), rfl, rfl⟩
  · refine v_iload_n dX10_has_4 rfl 1 rfl ?_
    refine v_aload_n dX10_has_5 rfl 0 rfl ?_
    refine v_getf 4 (ci := 8) (C := RX10) (T := TX10) (N := 7) rfl iwX10_has_X10 (Nat.le_of_ble_eq_true rfl) (by decide +kernel) dX10_has_6 (by repeat (first | (with_reducible refine sv_us.trans ?_; exact rfl) | with_reducible assumption | with_reducible refine (sv_un (by omega)).trans ?_)) rfl ?_
    refine v_icmp_ge (tgt := 16) dX10_has_9 (by decide) (fun c_9 => ?_) (fun c_9 => ?_)
    · refine v_iconst (v := 0) dX10_has_16 (by decide) ?_
      exact v_iret rfl dX10_has_17 (Nat.le_of_ble_eq_true rfl) (Nat.le_of_ble_eq_true rfl) rfl ⟨by simp only [Int32.lt_iff_toInt_lt, Int32.le_iff_toInt_le, sv_i0, sv_i1, sv_i2, sv_i3, sv_i4, sv_i5, sv_i6, sv_i7, sv_i8, sv_i9, sv_i10, sv_i16, sv_i17, sv_i20, sv_i32, sv_i40, sv_i64, sv_i100, sv_i126, sv_i255, sv_i600, sv_i1500, sv_i65536, sv_im1] at *; first | (rw [if_pos (by omega)]) | (rw [if_neg (by omega)]), rfl, rfl⟩
    · refine v_iconst (v := 1) dX10_has_12 (by decide) ?_
      refine v_goto (tgt := 17) dX10_has_13 (by decide) ?_
      exact v_iret rfl dX10_has_17 (Nat.le_of_ble_eq_true rfl) (Nat.le_of_ble_eq_true rfl) rfl ⟨by simp only [Int32.lt_iff_toInt_lt, Int32.le_iff_toInt_le, sv_i0, sv_i1, sv_i2, sv_i3, sv_i4, sv_i5, sv_i6, sv_i7, sv_i8, sv_i9, sv_i10, sv_i16, sv_i17, sv_i20, sv_i32, sv_i40, sv_i64, sv_i100, sv_i126, sv_i255, sv_i600, sv_i1500, sv_i65536, sv_im1] at *; first | (rw [if_pos (by omega)]) | (rw [if_neg (by omega)]), rfl, rfl⟩

set_option maxHeartbeats 4000000 in
set_option maxRecDepth 100000 in
theorem c_polygon_o (G : sv_G) (hl0 : G.1.stackTraces = false) (h : sv_h) (z b : Nat) (ly tp rd ck wv ru la fo fl lo : Nat) (rc lr lf : Int32) (hb : h b = some (.inr (10, [.ref ly, .ref tp, .ref rd, .ref ck, .ref wv, .ref ru, .int rc, .int lr, .int lf, .ref la, .ref fo, .ref fl, .ref lo]))) (c l : Int32) (po hd hs mo he nh : Nat) (k cs pn pl : Int32) (hly : h ly = some (.inr (1, [.int k, .int cs, .ref po, .int pn, .ref hd, .ref hs, .ref mo, .int pl, .ref he, .ref nh]))) (hg : ¬ (0 ≤ c ∧ c < cs)) : CX G mX12_polygon [.ref b, .int c, .int l] h z (fun _ _ _ => False) (fun E h1 z1 => E = "java/lang/IndexOutOfBoundsException" ∧ h1 = h) := by
  refine CX.of (by decide +kernel) rfl rfl (Nat.le_of_ble_eq_true rfl) ?_
  refine v_aload_n dX12_polygon_0 rfl 0 rfl ?_
  refine v_getf 0 (ci := 10) (C := RX12) (T := TX12) (N := 13) rfl iwX12_polygon_X12 (Nat.le_of_ble_eq_true rfl) (by decide +kernel) dX12_polygon_1 (by repeat (first | (with_reducible refine sv_us.trans ?_; exact rfl) | with_reducible assumption | with_reducible refine (sv_un (by omega)).trans ?_)) rfl ?_
  refine v_iload_n dX12_polygon_4 rfl 1 rfl ?_
  refine v_callV (M' := mX3_hasCell) (n := 1) (As := [_]) (ci := 1) (r := (RX3, TX3, 10)) gX12_polygon_X3_hasCell rfl (by decide +kernel) ⟨(Nat.le_of_ble_eq_true rfl), (Nat.le_of_ble_eq_true rfl)⟩ rfl rfl dX12_polygon_5 rfl ⟨(Nat.le_of_ble_eq_true rfl), (Nat.le_of_ble_eq_true rfl)⟩ (Nat.le_of_ble_eq_true rfl) (by repeat (first | (with_reducible refine sv_us.trans ?_; exact rfl) | with_reducible assumption | with_reducible refine (sv_un (by omega)).trans ?_)) rfl (c_hasCell G _ _ _ c _ _ _ _ _ _ _ _ _ _ hly) (fun v h1 z1 hq => ?_)
  rw [if_neg hg] at hq
  obtain ⟨rfl, rfl, rfl⟩ := hq
  refine v_if_eq (tgt := 26) dX12_polygon_8 (by decide) (fun c_8 => ?_) (fun c_8 => ?_)
  · exact v_throw (ik := 121) (is := 123) (ic := 125) (cls := "java/lang/IndexOutOfBoundsException") (text := "no such cell or layer") (names := ["java/lang/RuntimeException", "java/lang/Exception"]) hl0 rfl (by decide +kernel) (by decide +kernel) (by decide +kernel) (by decide +kernel) (by decide +kernel) (by decide +kernel) (by decide +kernel) sv_bwO (by decide +kernel) dX12_polygon_26 dX12_polygon_29 dX12_polygon_30 dX12_polygon_32 dX12_polygon_35 rfl (Nat.le_of_ble_eq_true rfl) (Nat.le_of_ble_eq_true rfl) (Nat.le_of_ble_eq_true rfl) (Nat.le_of_ble_eq_true rfl) (fun z9 hz9 => ⟨rfl, rfl⟩)
  · exact absurd rfl c_8

set_option maxHeartbeats 4000000 in
set_option maxRecDepth 100000 in
theorem c_corner_o (G : sv_G) (hl0 : G.1.stackTraces = false) (h : sv_h) (z b : Nat) (ly tp rd ck wv ru la fo fl lo : Nat) (rc lr lf : Int32) (hb : h b = some (.inr (10, [.ref ly, .ref tp, .ref rd, .ref ck, .ref wv, .ref ru, .int rc, .int lr, .int lf, .ref la, .ref fo, .ref fl, .ref lo]))) (c : Int32) (x y : Int64) (po hd hs mo he nh : Nat) (k cs pn pl : Int32) (hly : h ly = some (.inr (1, [.int k, .int cs, .ref po, .int pn, .ref hd, .ref hs, .ref mo, .int pl, .ref he, .ref nh]))) (hg : ¬ (0 ≤ c ∧ c < pn)) : CX G mX12_corner [.ref b, .int c, .long x, .long y] h z (fun _ _ _ => False) (fun E h1 z1 => E = "java/lang/IndexOutOfBoundsException" ∧ h1 = h) := by
  refine CX.of (by decide +kernel) rfl rfl (Nat.le_of_ble_eq_true rfl) ?_
  refine v_aload_n dX12_corner_0 rfl 0 rfl ?_
  refine v_getf 0 (ci := 10) (C := RX12) (T := TX12) (N := 13) rfl iwX12_corner_X12 (Nat.le_of_ble_eq_true rfl) (by decide +kernel) dX12_corner_1 (by repeat (first | (with_reducible refine sv_us.trans ?_; exact rfl) | with_reducible assumption | with_reducible refine (sv_un (by omega)).trans ?_)) rfl ?_
  refine v_iload_n dX12_corner_4 rfl 1 rfl ?_
  refine v_callV (M' := mX3_hasPolygon) (n := 1) (As := [_]) (ci := 1) (r := (RX3, TX3, 10)) gX12_corner_X3_hasPolygon rfl (by decide +kernel) ⟨(Nat.le_of_ble_eq_true rfl), (Nat.le_of_ble_eq_true rfl)⟩ rfl rfl dX12_corner_5 rfl ⟨(Nat.le_of_ble_eq_true rfl), (Nat.le_of_ble_eq_true rfl)⟩ (Nat.le_of_ble_eq_true rfl) (by repeat (first | (with_reducible refine sv_us.trans ?_; exact rfl) | with_reducible assumption | with_reducible refine (sv_un (by omega)).trans ?_)) rfl (c_hasPolygon G _ _ _ c _ _ _ _ _ _ _ _ _ _ hly) (fun v h1 z1 hq => ?_)
  rw [if_neg hg] at hq
  obtain ⟨rfl, rfl, rfl⟩ := hq
  refine v_if_ne (tgt := 21) dX12_corner_8 (by decide) (fun c_8 => ?_) (fun c_8 => ?_)
  · exact absurd rfl c_8
  · exact v_throw (ik := 121) (is := 138) (ic := 125) (cls := "java/lang/IndexOutOfBoundsException") (text := "no such polygon") (names := ["java/lang/RuntimeException", "java/lang/Exception"]) hl0 rfl (by decide +kernel) (by decide +kernel) (by decide +kernel) (by decide +kernel) (by decide +kernel) (by decide +kernel) (by decide +kernel) sv_bwO (by decide +kernel) dX12_corner_11 dX12_corner_14 dX12_corner_15 dX12_corner_17 dX12_corner_20 rfl (Nat.le_of_ble_eq_true rfl) (Nat.le_of_ble_eq_true rfl) (Nat.le_of_ble_eq_true rfl) (Nat.le_of_ble_eq_true rfl) (fun z9 hz9 => ⟨rfl, rfl⟩)

set_option maxHeartbeats 4000000 in
set_option maxRecDepth 100000 in
theorem c_voltage_o (G : sv_G) (hl0 : G.1.stackTraces = false) (h : sv_h) (z b : Nat) (ly tp rd ck wv ru la fo fl lo : Nat) (rc lr lf : Int32) (hb : h b = some (.inr (10, [.ref ly, .ref tp, .ref rd, .ref ck, .ref wv, .ref ru, .int rc, .int lr, .int lf, .ref la, .ref fo, .ref fl, .ref lo]))) (c : Int32) (x : Int64) (po hd hs mo he nh : Nat) (k cs pn pl : Int32) (hly : h ly = some (.inr (1, [.int k, .int cs, .ref po, .int pn, .ref hd, .ref hs, .ref mo, .int pl, .ref he, .ref nh]))) (hg : ¬ (0 ≤ c ∧ c < pn)) : CX G mX12_voltage [.ref b, .int c, .long x] h z (fun _ _ _ => False) (fun E h1 z1 => E = "java/lang/IndexOutOfBoundsException" ∧ h1 = h) := by
  refine CX.of (by decide +kernel) rfl rfl (Nat.le_of_ble_eq_true rfl) ?_
  refine v_aload_n dX12_voltage_0 rfl 0 rfl ?_
  refine v_getf 0 (ci := 10) (C := RX12) (T := TX12) (N := 13) rfl iwX12_voltage_X12 (Nat.le_of_ble_eq_true rfl) (by decide +kernel) dX12_voltage_1 (by repeat (first | (with_reducible refine sv_us.trans ?_; exact rfl) | with_reducible assumption | with_reducible refine (sv_un (by omega)).trans ?_)) rfl ?_
  refine v_iload_n dX12_voltage_4 rfl 1 rfl ?_
  refine v_callV (M' := mX3_hasPolygon) (n := 1) (As := [_]) (ci := 1) (r := (RX3, TX3, 10)) gX12_voltage_X3_hasPolygon rfl (by decide +kernel) ⟨(Nat.le_of_ble_eq_true rfl), (Nat.le_of_ble_eq_true rfl)⟩ rfl rfl dX12_voltage_5 rfl ⟨(Nat.le_of_ble_eq_true rfl), (Nat.le_of_ble_eq_true rfl)⟩ (Nat.le_of_ble_eq_true rfl) (by repeat (first | (with_reducible refine sv_us.trans ?_; exact rfl) | with_reducible assumption | with_reducible refine (sv_un (by omega)).trans ?_)) rfl (c_hasPolygon G _ _ _ c _ _ _ _ _ _ _ _ _ _ hly) (fun v h1 z1 hq => ?_)
  rw [if_neg hg] at hq
  obtain ⟨rfl, rfl, rfl⟩ := hq
  refine v_if_ne (tgt := 21) dX12_voltage_8 (by decide) (fun c_8 => ?_) (fun c_8 => ?_)
  · exact absurd rfl c_8
  · exact v_throw (ik := 121) (is := 138) (ic := 125) (cls := "java/lang/IndexOutOfBoundsException") (text := "no such polygon") (names := ["java/lang/RuntimeException", "java/lang/Exception"]) hl0 rfl (by decide +kernel) (by decide +kernel) (by decide +kernel) (by decide +kernel) (by decide +kernel) (by decide +kernel) (by decide +kernel) sv_bwO (by decide +kernel) dX12_voltage_11 dX12_voltage_14 dX12_voltage_15 dX12_voltage_17 dX12_voltage_20 rfl (Nat.le_of_ble_eq_true rfl) (Nat.le_of_ble_eq_true rfl) (Nat.le_of_ble_eq_true rfl) (Nat.le_of_ble_eq_true rfl) (fun z9 hz9 => ⟨rfl, rfl⟩)

set_option maxHeartbeats 4000000 in
set_option maxRecDepth 100000 in
theorem c_place_o (G : sv_G) (hl0 : G.1.stackTraces = false) (h : sv_h) (z b : Nat) (ly tp rd ck wv ru la fo fl lo : Nat) (rc lr lf : Int32) (hb : h b = some (.inr (10, [.ref ly, .ref tp, .ref rd, .ref ck, .ref wv, .ref ru, .int rc, .int lr, .int lf, .ref la, .ref fo, .ref fl, .ref lo]))) (c q w : Int32) (x y : Int64) (po hd hs mo he nh : Nat) (k cs pn pl : Int32) (hly : h ly = some (.inr (1, [.int k, .int cs, .ref po, .int pn, .ref hd, .ref hs, .ref mo, .int pl, .ref he, .ref nh]))) (hg : ¬ (0 ≤ c ∧ c < cs)) : CX G mX12_place [.ref b, .int c, .int q, .long x, .long y, .int w] h z (fun _ _ _ => False) (fun E h1 z1 => E = "java/lang/IndexOutOfBoundsException" ∧ h1 = h) := by
  refine CX.of (by decide +kernel) rfl rfl (Nat.le_of_ble_eq_true rfl) ?_
  refine v_aload_n dX12_place_0 rfl 0 rfl ?_
  refine v_getf 0 (ci := 10) (C := RX12) (T := TX12) (N := 13) rfl iwX12_place_X12 (Nat.le_of_ble_eq_true rfl) (by decide +kernel) dX12_place_1 (by repeat (first | (with_reducible refine sv_us.trans ?_; exact rfl) | with_reducible assumption | with_reducible refine (sv_un (by omega)).trans ?_)) rfl ?_
  refine v_iload_n dX12_place_4 rfl 1 rfl ?_
  refine v_callV (M' := mX3_hasCell) (n := 1) (As := [_]) (ci := 1) (r := (RX3, TX3, 10)) gX12_place_X3_hasCell rfl (by decide +kernel) ⟨(Nat.le_of_ble_eq_true rfl), (Nat.le_of_ble_eq_true rfl)⟩ rfl rfl dX12_place_5 rfl ⟨(Nat.le_of_ble_eq_true rfl), (Nat.le_of_ble_eq_true rfl)⟩ (Nat.le_of_ble_eq_true rfl) (by repeat (first | (with_reducible refine sv_us.trans ?_; exact rfl) | with_reducible assumption | with_reducible refine (sv_un (by omega)).trans ?_)) rfl (c_hasCell G _ _ _ c _ _ _ _ _ _ _ _ _ _ hly) (fun v h1 z1 hq => ?_)
  rw [if_neg hg] at hq
  obtain ⟨rfl, rfl, rfl⟩ := hq
  refine v_if_eq (tgt := 22) dX12_place_8 (by decide) (fun c_8 => ?_) (fun c_8 => ?_)
  · exact v_throw (ik := 121) (is := 173) (ic := 125) (cls := "java/lang/IndexOutOfBoundsException") (text := "no such cell") (names := ["java/lang/RuntimeException", "java/lang/Exception"]) hl0 rfl (by decide +kernel) (by decide +kernel) (by decide +kernel) (by decide +kernel) (by decide +kernel) (by decide +kernel) (by decide +kernel) sv_bwO (by decide +kernel) dX12_place_22 dX12_place_25 dX12_place_26 dX12_place_28 dX12_place_31 rfl (Nat.le_of_ble_eq_true rfl) (Nat.le_of_ble_eq_true rfl) (Nat.le_of_ble_eq_true rfl) (Nat.le_of_ble_eq_true rfl) (fun z9 hz9 => ⟨rfl, rfl⟩)
  · exact absurd rfl c_8

set_option maxHeartbeats 4000000 in
set_option maxRecDepth 100000 in
theorem c_occurrences_o (G : sv_G) (hl0 : G.1.stackTraces = false) (h : sv_h) (z b : Nat) (ly tp rd ck wv ru la fo fl lo : Nat) (rc lr lf : Int32) (hb : h b = some (.inr (10, [.ref ly, .ref tp, .ref rd, .ref ck, .ref wv, .ref ru, .int rc, .int lr, .int lf, .ref la, .ref fo, .ref fl, .ref lo]))) (c : Int32) (po hd hs mo he nh : Nat) (k cs pn pl : Int32) (hly : h ly = some (.inr (1, [.int k, .int cs, .ref po, .int pn, .ref hd, .ref hs, .ref mo, .int pl, .ref he, .ref nh]))) (hg : ¬ (0 ≤ c ∧ c < cs)) : CX G mX12_occurrences [.ref b, .int c] h z (fun _ _ _ => False) (fun E h1 z1 => E = "java/lang/IndexOutOfBoundsException" ∧ h1 = h) := by
  refine CX.of (by decide +kernel) rfl rfl (Nat.le_of_ble_eq_true rfl) ?_
  refine v_aload_n dX12_occurrences_0 rfl 0 rfl ?_
  refine v_getf 0 (ci := 10) (C := RX12) (T := TX12) (N := 13) rfl iwX12_occurrences_X12 (Nat.le_of_ble_eq_true rfl) (by decide +kernel) dX12_occurrences_1 (by repeat (first | (with_reducible refine sv_us.trans ?_; exact rfl) | with_reducible assumption | with_reducible refine (sv_un (by omega)).trans ?_)) rfl ?_
  refine v_iload_n dX12_occurrences_4 rfl 1 rfl ?_
  refine v_callV (M' := mX3_hasCell) (n := 1) (As := [_]) (ci := 1) (r := (RX3, TX3, 10)) gX12_occurrences_X3_hasCell rfl (by decide +kernel) ⟨(Nat.le_of_ble_eq_true rfl), (Nat.le_of_ble_eq_true rfl)⟩ rfl rfl dX12_occurrences_5 rfl ⟨(Nat.le_of_ble_eq_true rfl), (Nat.le_of_ble_eq_true rfl)⟩ (Nat.le_of_ble_eq_true rfl) (by repeat (first | (with_reducible refine sv_us.trans ?_; exact rfl) | with_reducible assumption | with_reducible refine (sv_un (by omega)).trans ?_)) rfl (c_hasCell G _ _ _ c _ _ _ _ _ _ _ _ _ _ hly) (fun v h1 z1 hq => ?_)
  rw [if_neg hg] at hq
  obtain ⟨rfl, rfl, rfl⟩ := hq
  refine v_if_ne (tgt := 21) dX12_occurrences_8 (by decide) (fun c_8 => ?_) (fun c_8 => ?_)
  · exact absurd rfl c_8
  · exact v_throw (ik := 121) (is := 173) (ic := 125) (cls := "java/lang/IndexOutOfBoundsException") (text := "no such cell") (names := ["java/lang/RuntimeException", "java/lang/Exception"]) hl0 rfl (by decide +kernel) (by decide +kernel) (by decide +kernel) (by decide +kernel) (by decide +kernel) (by decide +kernel) (by decide +kernel) sv_bwO (by decide +kernel) dX12_occurrences_11 dX12_occurrences_14 dX12_occurrences_15 dX12_occurrences_17 dX12_occurrences_20 rfl (Nat.le_of_ble_eq_true rfl) (Nat.le_of_ble_eq_true rfl) (Nat.le_of_ble_eq_true rfl) (Nat.le_of_ble_eq_true rfl) (fun z9 hz9 => ⟨rfl, rfl⟩)

set_option maxHeartbeats 4000000 in
set_option maxRecDepth 100000 in
theorem c_run_o (G : sv_G) (hl0 : G.1.stackTraces = false) (h : sv_h) (z b : Nat) (ly tp rd ck wv ru la fo fl lo : Nat) (rc lr lf : Int32) (hb : h b = some (.inr (10, [.ref ly, .ref tp, .ref rd, .ref ck, .ref wv, .ref ru, .int rc, .int lr, .int lf, .ref la, .ref fo, .ref fl, .ref lo]))) (c q w : Int32) (hg : ¬ (0 ≤ c ∧ c < rc)) : CX G mX12_run [.ref b, .int c, .int q, .int w] h z (fun _ _ _ => False) (fun E h1 z1 => E = "java/lang/IndexOutOfBoundsException" ∧ h1 = h) := by
  refine CX.of (by decide +kernel) rfl rfl (Nat.le_of_ble_eq_true rfl) ?_
  refine v_aload_n dX12_run_0 rfl 0 rfl ?_
  refine v_iload_n dX12_run_1 rfl 1 rfl ?_
  refine v_callV (M' := mX12_hasRule) (n := 1) (As := [_]) (ci := 10) (r := (RX12, TX12, 13)) gX12_run_X12_hasRule rfl (by decide +kernel) ⟨(Nat.le_of_ble_eq_true rfl), (Nat.le_of_ble_eq_true rfl)⟩ rfl rfl dX12_run_2 rfl ⟨(Nat.le_of_ble_eq_true rfl), (Nat.le_of_ble_eq_true rfl)⟩ (Nat.le_of_ble_eq_true rfl) (by repeat (first | (with_reducible refine sv_us.trans ?_; exact rfl) | with_reducible assumption | with_reducible refine (sv_un (by omega)).trans ?_)) rfl (c_hasRule G _ _ _ c _ _ _ _ _ _ _ _ _ _ _ _ _ hb) (fun v h1 z1 hq => ?_)
  rw [if_neg hg] at hq
  obtain ⟨rfl, rfl, rfl⟩ := hq
  refine v_if_eq (tgt := 19) dX12_run_5 (by decide) (fun c_5 => ?_) (fun c_5 => ?_)
  · exact v_throw (ik := 121) (is := 192) (ic := 125) (cls := "java/lang/IndexOutOfBoundsException") (text := "no such rule or cell") (names := ["java/lang/RuntimeException", "java/lang/Exception"]) hl0 rfl (by decide +kernel) (by decide +kernel) (by decide +kernel) (by decide +kernel) (by decide +kernel) (by decide +kernel) (by decide +kernel) sv_bwO (by decide +kernel) dX12_run_19 dX12_run_22 dX12_run_23 dX12_run_25 dX12_run_28 rfl (Nat.le_of_ble_eq_true rfl) (Nat.le_of_ble_eq_true rfl) (Nat.le_of_ble_eq_true rfl) (Nat.le_of_ble_eq_true rfl) (fun z9 hz9 => ⟨rfl, rfl⟩)
  · exact absurd rfl c_5

set_option maxHeartbeats 4000000 in
set_option maxRecDepth 100000 in
theorem c_same_o (G : sv_G) (hl0 : G.1.stackTraces = false) (h : sv_h) (z b : Nat) (ly tp rd ck wv ru la fo fl lo : Nat) (rc lr lf : Int32) (hb : h b = some (.inr (10, [.ref ly, .ref tp, .ref rd, .ref ck, .ref wv, .ref ru, .int rc, .int lr, .int lf, .ref la, .ref fo, .ref fl, .ref lo]))) (c q : Int32) (hg : ¬ (0 ≤ c ∧ c < rc)) : CX G mX12_same [.ref b, .int c, .int q] h z (fun _ _ _ => False) (fun E h1 z1 => E = "java/lang/IndexOutOfBoundsException" ∧ h1 = h) := by
  refine CX.of (by decide +kernel) rfl rfl (Nat.le_of_ble_eq_true rfl) ?_
  refine v_aload_n dX12_same_0 rfl 0 rfl ?_
  refine v_iload_n dX12_same_1 rfl 1 rfl ?_
  refine v_callV (M' := mX12_hasRule) (n := 1) (As := [_]) (ci := 10) (r := (RX12, TX12, 13)) gX12_same_X12_hasRule rfl (by decide +kernel) ⟨(Nat.le_of_ble_eq_true rfl), (Nat.le_of_ble_eq_true rfl)⟩ rfl rfl dX12_same_2 rfl ⟨(Nat.le_of_ble_eq_true rfl), (Nat.le_of_ble_eq_true rfl)⟩ (Nat.le_of_ble_eq_true rfl) (by repeat (first | (with_reducible refine sv_us.trans ?_; exact rfl) | with_reducible assumption | with_reducible refine (sv_un (by omega)).trans ?_)) rfl (c_hasRule G _ _ _ c _ _ _ _ _ _ _ _ _ _ _ _ _ hb) (fun v h1 z1 hq => ?_)
  rw [if_neg hg] at hq
  obtain ⟨rfl, rfl, rfl⟩ := hq
  refine v_if_eq (tgt := 19) dX12_same_5 (by decide) (fun c_5 => ?_) (fun c_5 => ?_)
  · exact v_throw (ik := 121) (is := 192) (ic := 125) (cls := "java/lang/IndexOutOfBoundsException") (text := "no such rule or cell") (names := ["java/lang/RuntimeException", "java/lang/Exception"]) hl0 rfl (by decide +kernel) (by decide +kernel) (by decide +kernel) (by decide +kernel) (by decide +kernel) (by decide +kernel) (by decide +kernel) sv_bwO (by decide +kernel) dX12_same_19 dX12_same_22 dX12_same_23 dX12_same_25 dX12_same_28 rfl (Nat.le_of_ble_eq_true rfl) (Nat.le_of_ble_eq_true rfl) (Nat.le_of_ble_eq_true rfl) (Nat.le_of_ble_eq_true rfl) (fun z9 hz9 => ⟨rfl, rfl⟩)
  · exact absurd rfl c_5

set_option maxHeartbeats 4000000 in
set_option maxRecDepth 100000 in
theorem c_violation_o (G : sv_G) (hl0 : G.1.stackTraces = false) (h : sv_h) (z b : Nat) (ly tp rd ck wv ru la fo fl lo : Nat) (rc lr lf : Int32) (hb : h b = some (.inr (10, [.ref ly, .ref tp, .ref rd, .ref ck, .ref wv, .ref ru, .int rc, .int lr, .int lf, .ref la, .ref fo, .ref fl, .ref lo]))) (c q : Int32) (ro od st : Nat) (us sz ov hm : Int32) (hla : h la = some (.inr (8, [.ref ro, .int us, .ref od, .ref st, .int sz, .int ov, .int hm]))) (hg : ¬ (0 ≤ c ∧ c < sz)) : CX G mX12_violation [.ref b, .int c, .int q] h z (fun _ _ _ => False) (fun E h1 z1 => E = "java/lang/IndexOutOfBoundsException" ∧ h1 = h) := by
  refine CX.of (by decide +kernel) rfl rfl (Nat.le_of_ble_eq_true rfl) ?_
  refine v_aload_n dX12_violation_0 rfl 0 rfl ?_
  refine v_getf 9 (ci := 10) (C := RX12) (T := TX12) (N := 13) rfl iwX12_violation_X12 (Nat.le_of_ble_eq_true rfl) (by decide +kernel) dX12_violation_1 (by repeat (first | (with_reducible refine sv_us.trans ?_; exact rfl) | with_reducible assumption | with_reducible refine (sv_un (by omega)).trans ?_)) rfl ?_
  refine v_iload_n dX12_violation_4 rfl 1 rfl ?_
  refine v_callV (M' := mX10_has) (n := 1) (As := [_]) (ci := 8) (r := (RX10, TX10, 7)) gX12_violation_X10_has rfl (by decide +kernel) ⟨(Nat.le_of_ble_eq_true rfl), (Nat.le_of_ble_eq_true rfl)⟩ rfl rfl dX12_violation_5 rfl ⟨(Nat.le_of_ble_eq_true rfl), (Nat.le_of_ble_eq_true rfl)⟩ (Nat.le_of_ble_eq_true rfl) (by repeat (first | (with_reducible refine sv_us.trans ?_; exact rfl) | with_reducible assumption | with_reducible refine (sv_un (by omega)).trans ?_)) rfl (c_Told_has G _ _ _ c _ _ _ _ _ _ _ hla) (fun v h1 z1 hq => ?_)
  rw [if_neg hg] at hq
  obtain ⟨rfl, rfl, rfl⟩ := hq
  refine v_if_eq (tgt := 21) dX12_violation_8 (by decide) (fun c_8 => ?_) (fun c_8 => ?_)
  · exact v_throw (ik := 121) (is := 220) (ic := 125) (cls := "java/lang/IndexOutOfBoundsException") (text := "no such violation or what") (names := ["java/lang/RuntimeException", "java/lang/Exception"]) hl0 rfl (by decide +kernel) (by decide +kernel) (by decide +kernel) (by decide +kernel) (by decide +kernel) (by decide +kernel) (by decide +kernel) sv_bwO (by decide +kernel) dX12_violation_21 dX12_violation_24 dX12_violation_25 dX12_violation_27 dX12_violation_30 rfl (Nat.le_of_ble_eq_true rfl) (Nat.le_of_ble_eq_true rfl) (Nat.le_of_ble_eq_true rfl) (Nat.le_of_ble_eq_true rfl) (fun z9 hz9 => ⟨rfl, rfl⟩)
  · exact absurd rfl c_8

set_option maxHeartbeats 4000000 in
set_option maxRecDepth 100000 in
theorem c_cellOf_o (G : sv_G) (hl0 : G.1.stackTraces = false) (h : sv_h) (z b : Nat) (ly tp rd ck wv ru la fo fl lo : Nat) (rc lr lf : Int32) (hb : h b = some (.inr (10, [.ref ly, .ref tp, .ref rd, .ref ck, .ref wv, .ref ru, .int rc, .int lr, .int lf, .ref la, .ref fo, .ref fl, .ref lo]))) (c : Int32) (ro od st : Nat) (us sz ov hm : Int32) (hla : h la = some (.inr (8, [.ref ro, .int us, .ref od, .ref st, .int sz, .int ov, .int hm]))) (hg : ¬ (0 ≤ c ∧ c < sz)) : CX G mX12_cellOf [.ref b, .int c] h z (fun _ _ _ => False) (fun E h1 z1 => E = "java/lang/IndexOutOfBoundsException" ∧ h1 = h) := by
  refine CX.of (by decide +kernel) rfl rfl (Nat.le_of_ble_eq_true rfl) ?_
  refine v_aload_n dX12_cellOf_0 rfl 0 rfl ?_
  refine v_getf 9 (ci := 10) (C := RX12) (T := TX12) (N := 13) rfl iwX12_cellOf_X12 (Nat.le_of_ble_eq_true rfl) (by decide +kernel) dX12_cellOf_1 (by repeat (first | (with_reducible refine sv_us.trans ?_; exact rfl) | with_reducible assumption | with_reducible refine (sv_un (by omega)).trans ?_)) rfl ?_
  refine v_iload_n dX12_cellOf_4 rfl 1 rfl ?_
  refine v_callV (M' := mX10_has) (n := 1) (As := [_]) (ci := 8) (r := (RX10, TX10, 7)) gX12_cellOf_X10_has rfl (by decide +kernel) ⟨(Nat.le_of_ble_eq_true rfl), (Nat.le_of_ble_eq_true rfl)⟩ rfl rfl dX12_cellOf_5 rfl ⟨(Nat.le_of_ble_eq_true rfl), (Nat.le_of_ble_eq_true rfl)⟩ (Nat.le_of_ble_eq_true rfl) (by repeat (first | (with_reducible refine sv_us.trans ?_; exact rfl) | with_reducible assumption | with_reducible refine (sv_un (by omega)).trans ?_)) rfl (c_Told_has G _ _ _ c _ _ _ _ _ _ _ hla) (fun v h1 z1 hq => ?_)
  rw [if_neg hg] at hq
  obtain ⟨rfl, rfl, rfl⟩ := hq
  refine v_if_ne (tgt := 21) dX12_cellOf_8 (by decide) (fun c_8 => ?_) (fun c_8 => ?_)
  · exact absurd rfl c_8
  · exact v_throw (ik := 121) (is := 226) (ic := 125) (cls := "java/lang/IndexOutOfBoundsException") (text := "no such violation") (names := ["java/lang/RuntimeException", "java/lang/Exception"]) hl0 rfl (by decide +kernel) (by decide +kernel) (by decide +kernel) (by decide +kernel) (by decide +kernel) (by decide +kernel) (by decide +kernel) sv_bwO (by decide +kernel) dX12_cellOf_11 dX12_cellOf_14 dX12_cellOf_15 dX12_cellOf_17 dX12_cellOf_20 rfl (Nat.le_of_ble_eq_true rfl) (Nat.le_of_ble_eq_true rfl) (Nat.le_of_ble_eq_true rfl) (Nat.le_of_ble_eq_true rfl) (fun z9 hz9 => ⟨rfl, rfl⟩)

set_option maxHeartbeats 4000000 in
set_option maxRecDepth 100000 in
theorem c_waive_o (G : sv_G) (hl0 : G.1.stackTraces = false) (h : sv_h) (z b : Nat) (ly tp rd ck wv ru la fo fl lo : Nat) (rc lr lf : Int32) (hb : h b = some (.inr (10, [.ref ly, .ref tp, .ref rd, .ref ck, .ref wv, .ref ru, .int rc, .int lr, .int lf, .ref la, .ref fo, .ref fl, .ref lo]))) (c : Int32) (ro od st : Nat) (us sz ov hm : Int32) (hla : h la = some (.inr (8, [.ref ro, .int us, .ref od, .ref st, .int sz, .int ov, .int hm]))) (hg : ¬ (0 ≤ c ∧ c < sz)) : CX G mX12_waive [.ref b, .int c] h z (fun _ _ _ => False) (fun E h1 z1 => E = "java/lang/IndexOutOfBoundsException" ∧ h1 = h) := by
  refine CX.of (by decide +kernel) rfl rfl (Nat.le_of_ble_eq_true rfl) ?_
  refine v_aload_n dX12_waive_0 rfl 0 rfl ?_
  refine v_getf 9 (ci := 10) (C := RX12) (T := TX12) (N := 13) rfl iwX12_waive_X12 (Nat.le_of_ble_eq_true rfl) (by decide +kernel) dX12_waive_1 (by repeat (first | (with_reducible refine sv_us.trans ?_; exact rfl) | with_reducible assumption | with_reducible refine (sv_un (by omega)).trans ?_)) rfl ?_
  refine v_iload_n dX12_waive_4 rfl 1 rfl ?_
  refine v_callV (M' := mX10_has) (n := 1) (As := [_]) (ci := 8) (r := (RX10, TX10, 7)) gX12_waive_X10_has rfl (by decide +kernel) ⟨(Nat.le_of_ble_eq_true rfl), (Nat.le_of_ble_eq_true rfl)⟩ rfl rfl dX12_waive_5 rfl ⟨(Nat.le_of_ble_eq_true rfl), (Nat.le_of_ble_eq_true rfl)⟩ (Nat.le_of_ble_eq_true rfl) (by repeat (first | (with_reducible refine sv_us.trans ?_; exact rfl) | with_reducible assumption | with_reducible refine (sv_un (by omega)).trans ?_)) rfl (c_Told_has G _ _ _ c _ _ _ _ _ _ _ hla) (fun v h1 z1 hq => ?_)
  rw [if_neg hg] at hq
  obtain ⟨rfl, rfl, rfl⟩ := hq
  refine v_if_ne (tgt := 21) dX12_waive_8 (by decide) (fun c_8 => ?_) (fun c_8 => ?_)
  · exact absurd rfl c_8
  · exact v_throw (ik := 121) (is := 226) (ic := 125) (cls := "java/lang/IndexOutOfBoundsException") (text := "no such violation") (names := ["java/lang/RuntimeException", "java/lang/Exception"]) hl0 rfl (by decide +kernel) (by decide +kernel) (by decide +kernel) (by decide +kernel) (by decide +kernel) (by decide +kernel) (by decide +kernel) sv_bwO (by decide +kernel) dX12_waive_11 dX12_waive_14 dX12_waive_15 dX12_waive_17 dX12_waive_20 rfl (Nat.le_of_ble_eq_true rfl) (Nat.le_of_ble_eq_true rfl) (Nat.le_of_ble_eq_true rfl) (Nat.le_of_ble_eq_true rfl) (fun z9 hz9 => ⟨rfl, rfl⟩)

set_option maxHeartbeats 4000000 in
set_option maxRecDepth 100000 in
theorem c_changed_o (G : sv_G) (hl0 : G.1.stackTraces = false) (h : sv_h) (z b : Nat) (x0 y0 x1 y1 : Int64) (ly tp rd ck wv ru la fo fl lo : Nat) (rc lr lf : Int32) (hb : h b = some (.inr (10, [.ref ly, .ref tp, .ref rd, .ref ck, .ref wv, .ref ru, .int rc, .int lr, .int lf, .ref la, .ref fo, .ref fl, .ref lo]))) (hg : lf = 0) : CX G mX12_changed [.ref b, .long x0, .long y0, .long x1, .long y1] h z (fun _ _ _ => False) (fun E h1 z1 => E = "java/lang/IllegalStateException" ∧ h1 = h) := by
  refine CX.of (by decide +kernel) rfl rfl (Nat.le_of_ble_eq_true rfl) ?_
  refine v_aload_n dX12_changed_0 rfl 0 rfl ?_
  refine v_getf 8 (ci := 10) (C := RX12) (T := TX12) (N := 13) rfl iwX12_changed_X12 (Nat.le_of_ble_eq_true rfl) (by decide +kernel) dX12_changed_1 (by repeat (first | (with_reducible refine sv_us.trans ?_; exact rfl) | with_reducible assumption | with_reducible refine (sv_un (by omega)).trans ?_)) rfl ?_
  refine v_if_ne (tgt := 17) dX12_changed_4 (by decide) (fun c_4 => ?_) (fun c_4 => ?_)
  · exact absurd hg c_4
  · exact v_throw (ik := 108) (is := 239) (ic := 112) (cls := "java/lang/IllegalStateException") (text := "the latest run was not flat, or there was none") (names := ["java/lang/RuntimeException", "java/lang/Exception"]) hl0 rfl (by decide +kernel) (by decide +kernel) (by decide +kernel) (by decide +kernel) (by decide +kernel) (by decide +kernel) (by decide +kernel) sv_bwI (by decide +kernel) dX12_changed_7 dX12_changed_10 dX12_changed_11 dX12_changed_13 dX12_changed_16 rfl (Nat.le_of_ble_eq_true rfl) (Nat.le_of_ble_eq_true rfl) (Nat.le_of_ble_eq_true rfl) (Nat.le_of_ble_eq_true rfl) (fun z9 hz9 => ⟨rfl, rfl⟩)
