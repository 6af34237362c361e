theorem iwX1_judgeMeasure_X1 : ∀ w ∈ wsX10, w ∈ wsX1_judgeMeasure := by decide +kernel
theorem iwX1_judgeMeasure_X7 : ∀ w ∈ wsX70, w ∈ wsX1_judgeMeasure := by decide +kernel
theorem iwX1_judgeMeasure_X8 : ∀ w ∈ wsX80, w ∈ wsX1_judgeMeasure := by decide +kernel
theorem iwX1_judgeEdges_X1 : ∀ w ∈ wsX10, w ∈ wsX1_judgeEdges := by decide +kernel
theorem iwX1_judgeEdges_X7 : ∀ w ∈ wsX70, w ∈ wsX1_judgeEdges := by decide +kernel
theorem iwX1_judgeEdges_X8 : ∀ w ∈ wsX80, w ∈ wsX1_judgeEdges := by decide +kernel
theorem iwX1_judgeSpace_X1 : ∀ w ∈ wsX10, w ∈ wsX1_judgeSpace := by decide +kernel
theorem iwX1_judgeSpace_X8 : ∀ w ∈ wsX80, w ∈ wsX1_judgeSpace := by decide +kernel
theorem iwX1_judgeEnclosing_X1 : ∀ w ∈ wsX10, w ∈ wsX1_judgeEnclosing := by decide +kernel
theorem iwX1_judgeEnclosing_X5 : ∀ w ∈ wsX50, w ∈ wsX1_judgeEnclosing := by decide +kernel
theorem iwX1_judgeEnclosing_X7 : ∀ w ∈ wsX70, w ∈ wsX1_judgeEnclosing := by decide +kernel
theorem iwX1_judgeEnclosing_X8 : ∀ w ∈ wsX80, w ∈ wsX1_judgeEnclosing := by decide +kernel
theorem iwX1_judgeOverlap_X1 : ∀ w ∈ wsX10, w ∈ wsX1_judgeOverlap := by decide +kernel
theorem iwX1_judgeOverlap_X8 : ∀ w ∈ wsX80, w ∈ wsX1_judgeOverlap := by decide +kernel
set_option maxRecDepth 20000 in
theorem ggX1_judgeMeasure_X10_add : GoodIn wsX1_judgeMeasure wsX10_add := goodIn_r _ [11, 12, 13, 14, 15, 16, 17, 18, 19, 20, 21, 50, 51, 52, 53, 54, 55, 56] (by decide +kernel) (by decide +kernel)
set_option maxRecDepth 20000 in
theorem gX1_judgeMeasure_X10_add : GoodIn wsX1_judgeMeasure (wsV RX1 154 RX10 yX10_add wsX10_add) := goodIn_app (goodIn_of _ (by decide +kernel)) ggX1_judgeMeasure_X10_add
theorem dX1_judgeMeasure_0 : decode cX1_judgeMeasure 0 = .ok (.iload_n 2, 1) := by decide +kernel
theorem dX1_judgeMeasure_1 : decode cX1_judgeMeasure 1 = .ok (.aload_n 0, 1) := by decide +kernel
theorem dX1_judgeMeasure_2 : decode cX1_judgeMeasure 2 = .ok (.getfield 41, 3) := by decide +kernel
theorem dX1_judgeMeasure_5 : decode cX1_judgeMeasure 5 = .ok (.getfield 151, 3) := by decide +kernel
theorem dX1_judgeMeasure_8 : decode cX1_judgeMeasure 8 = .ok (.if_icmp .ge 57, 3) := by decide +kernel
theorem dX1_judgeMeasure_11 : decode cX1_judgeMeasure 11 = .ok (.aload_n 0, 1) := by decide +kernel
theorem dX1_judgeMeasure_12 : decode cX1_judgeMeasure 12 = .ok (.getfield 30, 3) := by decide +kernel
theorem dX1_judgeMeasure_15 : decode cX1_judgeMeasure 15 = .ok (.getfield 195, 3) := by decide +kernel
theorem dX1_judgeMeasure_18 : decode cX1_judgeMeasure 18 = .ok (.astore_n 3, 1) := by decide +kernel
theorem dX1_judgeMeasure_19 : decode cX1_judgeMeasure 19 = .ok (.iload_n 1, 1) := by decide +kernel
theorem dX1_judgeMeasure_20 : decode cX1_judgeMeasure 20 = .ok (.iconst 4, 1) := by decide +kernel
theorem dX1_judgeMeasure_21 : decode cX1_judgeMeasure 21 = .ok (.imul, 1) := by decide +kernel
theorem dX1_judgeMeasure_22 : decode cX1_judgeMeasure 22 = .ok (.istore 4, 2) := by decide +kernel
theorem dX1_judgeMeasure_24 : decode cX1_judgeMeasure 24 = .ok (.aload_n 0, 1) := by decide +kernel
theorem dX1_judgeMeasure_25 : decode cX1_judgeMeasure 25 = .ok (.getfield 45, 3) := by decide +kernel
theorem dX1_judgeMeasure_28 : decode cX1_judgeMeasure 28 = .ok (.aload_n 3, 1) := by decide +kernel
theorem dX1_judgeMeasure_29 : decode cX1_judgeMeasure 29 = .ok (.iload 4, 2) := by decide +kernel
theorem dX1_judgeMeasure_31 : decode cX1_judgeMeasure 31 = .ok (.iaload, 1) := by decide +kernel
theorem dX1_judgeMeasure_32 : decode cX1_judgeMeasure 32 = .ok (.aload_n 3, 1) := by decide +kernel
theorem dX1_judgeMeasure_33 : decode cX1_judgeMeasure 33 = .ok (.iload 4, 2) := by decide +kernel
theorem dX1_judgeMeasure_35 : decode cX1_judgeMeasure 35 = .ok (.iconst 1, 1) := by decide +kernel
theorem dX1_judgeMeasure_36 : decode cX1_judgeMeasure 36 = .ok (.iadd, 1) := by decide +kernel
theorem dX1_judgeMeasure_37 : decode cX1_judgeMeasure 37 = .ok (.iaload, 1) := by decide +kernel
theorem dX1_judgeMeasure_38 : decode cX1_judgeMeasure 38 = .ok (.aload_n 3, 1) := by decide +kernel
theorem dX1_judgeMeasure_39 : decode cX1_judgeMeasure 39 = .ok (.iload 4, 2) := by decide +kernel
theorem dX1_judgeMeasure_41 : decode cX1_judgeMeasure 41 = .ok (.iconst 2, 1) := by decide +kernel
theorem dX1_judgeMeasure_42 : decode cX1_judgeMeasure 42 = .ok (.iadd, 1) := by decide +kernel
theorem dX1_judgeMeasure_43 : decode cX1_judgeMeasure 43 = .ok (.iaload, 1) := by decide +kernel
theorem dX1_judgeMeasure_44 : decode cX1_judgeMeasure 44 = .ok (.aload_n 3, 1) := by decide +kernel
theorem dX1_judgeMeasure_45 : decode cX1_judgeMeasure 45 = .ok (.iload 4, 2) := by decide +kernel
theorem dX1_judgeMeasure_47 : decode cX1_judgeMeasure 47 = .ok (.iconst 3, 1) := by decide +kernel
theorem dX1_judgeMeasure_48 : decode cX1_judgeMeasure 48 = .ok (.iadd, 1) := by decide +kernel
theorem dX1_judgeMeasure_49 : decode cX1_judgeMeasure 49 = .ok (.iaload, 1) := by decide +kernel
theorem dX1_judgeMeasure_50 : decode cX1_judgeMeasure 50 = .ok (.aload_n 0, 1) := by decide +kernel
theorem dX1_judgeMeasure_51 : decode cX1_judgeMeasure 51 = .ok (.getfield 30, 3) := by decide +kernel
theorem dX1_judgeMeasure_54 : decode cX1_judgeMeasure 54 = .ok (.getfield 172, 3) := by decide +kernel
theorem dX1_judgeMeasure_57 : decode cX1_judgeMeasure 57 = .ok (.iload_n 1, 1) := by decide +kernel
theorem dX1_judgeMeasure_58 : decode cX1_judgeMeasure 58 = .ok (.iaload, 1) := by decide +kernel
theorem dX1_judgeMeasure_59 : decode cX1_judgeMeasure 59 = .ok (.iconst (-1), 1) := by decide +kernel
theorem dX1_judgeMeasure_60 : decode cX1_judgeMeasure 60 = .ok (.iload_n 2, 1) := by decide +kernel
theorem dX1_judgeMeasure_61 : decode cX1_judgeMeasure 61 = .ok (.i2l, 1) := by decide +kernel
theorem dX1_judgeMeasure_62 : decode cX1_judgeMeasure 62 = .ok (.invokevirtual 154, 3) := by decide +kernel
theorem dX1_judgeMeasure_65 : decode cX1_judgeMeasure 65 = .ok (.return_, 1) := by decide +kernel
set_option maxRecDepth 20000 in
theorem ggX1_judgeEdges_X8_begin : GoodIn wsX1_judgeEdges wsX8_begin := goodIn_r _ [13, 14, 44, 45, 46, 47, 48, 49, 50, 51, 52, 53, 54, 55, 56, 57] (by decide +kernel) (by decide +kernel)
set_option maxRecDepth 20000 in
theorem gX1_judgeEdges_X8_begin : GoodIn wsX1_judgeEdges (wsV RX1 198 RX8 yX8_begin wsX8_begin) := goodIn_app (goodIn_of _ (by decide +kernel)) ggX1_judgeEdges_X8_begin
set_option maxRecDepth 20000 in
theorem ggX1_judgeEdges_X8_end : GoodIn wsX1_judgeEdges wsX8_end := goodIn_r _ [18, 14, 44, 45, 46, 47, 48, 49, 50, 51, 52, 53, 54, 55, 56, 57] (by decide +kernel) (by decide +kernel)
set_option maxRecDepth 20000 in
theorem gX1_judgeEdges_X8_end : GoodIn wsX1_judgeEdges (wsV RX1 201 RX8 yX8_end wsX8_end) := goodIn_app (goodIn_of _ (by decide +kernel)) ggX1_judgeEdges_X8_end
set_option maxRecDepth 20000 in
theorem ggX1_judgeEdges_X1_isUpright : GoodIn wsX1_judgeEdges wsX1_isUpright := goodIn_r _ [22] (by decide +kernel) (by decide +kernel)
set_option maxRecDepth 20000 in
theorem ggX1_judgeEdges_X10_add : GoodIn wsX1_judgeEdges wsX10_add := goodIn_r _ [27, 28, 29, 30, 31, 32, 33, 34, 35, 36, 37, 66, 67, 68, 69, 70, 71, 72] (by decide +kernel) (by decide +kernel)
set_option maxRecDepth 20000 in
theorem gX1_judgeEdges_X10_add : GoodIn wsX1_judgeEdges (wsV RX1 154 RX10 yX10_add wsX10_add) := goodIn_app (goodIn_of _ (by decide +kernel)) ggX1_judgeEdges_X10_add
theorem dX1_judgeEdges_0 : decode cX1_judgeEdges 0 = .ok (.aload_n 0, 1) := by decide +kernel
theorem dX1_judgeEdges_1 : decode cX1_judgeEdges 1 = .ok (.getfield 30, 3) := by decide +kernel
theorem dX1_judgeEdges_4 : decode cX1_judgeEdges 4 = .ok (.getfield 172, 3) := by decide +kernel
theorem dX1_judgeEdges_7 : decode cX1_judgeEdges 7 = .ok (.iload_n 1, 1) := by decide +kernel
theorem dX1_judgeEdges_8 : decode cX1_judgeEdges 8 = .ok (.iaload, 1) := by decide +kernel
theorem dX1_judgeEdges_9 : decode cX1_judgeEdges 9 = .ok (.istore_n 2, 1) := by decide +kernel
theorem dX1_judgeEdges_10 : decode cX1_judgeEdges 10 = .ok (.iconst 0, 1) := by decide +kernel
theorem dX1_judgeEdges_11 : decode cX1_judgeEdges 11 = .ok (.istore_n 3, 1) := by decide +kernel
theorem dX1_judgeEdges_12 : decode cX1_judgeEdges 12 = .ok (.iload_n 3, 1) := by decide +kernel
theorem dX1_judgeEdges_13 : decode cX1_judgeEdges 13 = .ok (.iconst 4, 1) := by decide +kernel
theorem dX1_judgeEdges_14 : decode cX1_judgeEdges 14 = .ok (.if_icmp .ge 150, 3) := by decide +kernel
theorem dX1_judgeEdges_17 : decode cX1_judgeEdges 17 = .ok (.aload_n 0, 1) := by decide +kernel
theorem dX1_judgeEdges_18 : decode cX1_judgeEdges 18 = .ok (.getfield 30, 3) := by decide +kernel
theorem dX1_judgeEdges_21 : decode cX1_judgeEdges 21 = .ok (.iload_n 1, 1) := by decide +kernel
theorem dX1_judgeEdges_22 : decode cX1_judgeEdges 22 = .ok (.iload_n 3, 1) := by decide +kernel
theorem dX1_judgeEdges_23 : decode cX1_judgeEdges 23 = .ok (.invokevirtual 198, 3) := by decide +kernel
theorem dX1_judgeEdges_26 : decode cX1_judgeEdges 26 = .ok (.istore 4, 2) := by decide +kernel
theorem dX1_judgeEdges_28 : decode cX1_judgeEdges 28 = .ok (.iload 4, 2) := by decide +kernel
theorem dX1_judgeEdges_30 : decode cX1_judgeEdges 30 = .ok (.aload_n 0, 1) := by decide +kernel
theorem dX1_judgeEdges_31 : decode cX1_judgeEdges 31 = .ok (.getfield 30, 3) := by decide +kernel
theorem dX1_judgeEdges_34 : decode cX1_judgeEdges 34 = .ok (.iload_n 1, 1) := by decide +kernel
theorem dX1_judgeEdges_35 : decode cX1_judgeEdges 35 = .ok (.iload_n 3, 1) := by decide +kernel
theorem dX1_judgeEdges_36 : decode cX1_judgeEdges 36 = .ok (.invokevirtual 201, 3) := by decide +kernel
theorem dX1_judgeEdges_39 : decode cX1_judgeEdges 39 = .ok (.if_icmp .ge 119, 3) := by decide +kernel
theorem dX1_judgeEdges_42 : decode cX1_judgeEdges 42 = .ok (.aload_n 0, 1) := by decide +kernel
theorem dX1_judgeEdges_43 : decode cX1_judgeEdges 43 = .ok (.getfield 30, 3) := by decide +kernel
theorem dX1_judgeEdges_46 : decode cX1_judgeEdges 46 = .ok (.getfield 204, 3) := by decide +kernel
theorem dX1_judgeEdges_49 : decode cX1_judgeEdges 49 = .ok (.iload 4, 2) := by decide +kernel
theorem dX1_judgeEdges_51 : decode cX1_judgeEdges 51 = .ok (.iaload, 1) := by decide +kernel
theorem dX1_judgeEdges_52 : decode cX1_judgeEdges 52 = .ok (.istore 5, 2) := by decide +kernel
theorem dX1_judgeEdges_54 : decode cX1_judgeEdges 54 = .ok (.aload_n 0, 1) := by decide +kernel
theorem dX1_judgeEdges_55 : decode cX1_judgeEdges 55 = .ok (.getfield 30, 3) := by decide +kernel
theorem dX1_judgeEdges_58 : decode cX1_judgeEdges 58 = .ok (.getfield 207, 3) := by decide +kernel
theorem dX1_judgeEdges_61 : decode cX1_judgeEdges 61 = .ok (.iload 4, 2) := by decide +kernel
theorem dX1_judgeEdges_63 : decode cX1_judgeEdges 63 = .ok (.iaload, 1) := by decide +kernel
theorem dX1_judgeEdges_64 : decode cX1_judgeEdges 64 = .ok (.istore 6, 2) := by decide +kernel
theorem dX1_judgeEdges_66 : decode cX1_judgeEdges 66 = .ok (.aload_n 0, 1) := by decide +kernel
theorem dX1_judgeEdges_67 : decode cX1_judgeEdges 67 = .ok (.getfield 30, 3) := by decide +kernel
theorem dX1_judgeEdges_70 : decode cX1_judgeEdges 70 = .ok (.getfield 210, 3) := by decide +kernel
theorem dX1_judgeEdges_73 : decode cX1_judgeEdges 73 = .ok (.iload 4, 2) := by decide +kernel
theorem dX1_judgeEdges_75 : decode cX1_judgeEdges 75 = .ok (.iaload, 1) := by decide +kernel
theorem dX1_judgeEdges_76 : decode cX1_judgeEdges 76 = .ok (.istore 7, 2) := by decide +kernel
theorem dX1_judgeEdges_78 : decode cX1_judgeEdges 78 = .ok (.iload 7, 2) := by decide +kernel
theorem dX1_judgeEdges_80 : decode cX1_judgeEdges 80 = .ok (.iload 6, 2) := by decide +kernel
theorem dX1_judgeEdges_82 : decode cX1_judgeEdges 82 = .ok (.isub, 1) := by decide +kernel
theorem dX1_judgeEdges_83 : decode cX1_judgeEdges 83 = .ok (.aload_n 0, 1) := by decide +kernel
theorem dX1_judgeEdges_84 : decode cX1_judgeEdges 84 = .ok (.getfield 41, 3) := by decide +kernel
theorem dX1_judgeEdges_87 : decode cX1_judgeEdges 87 = .ok (.getfield 151, 3) := by decide +kernel
theorem dX1_judgeEdges_90 : decode cX1_judgeEdges 90 = .ok (.if_icmp .lt 6, 3) := by decide +kernel
theorem dX1_judgeEdges_93 : decode cX1_judgeEdges 93 = .ok (.goto 59, 3) := by decide +kernel
theorem dX1_judgeEdges_96 : decode cX1_judgeEdges 96 = .ok (.iload_n 3, 1) := by decide +kernel
theorem dX1_judgeEdges_97 : decode cX1_judgeEdges 97 = .ok (.invokestatic 213, 3) := by decide +kernel
theorem dX1_judgeEdges_100 : decode cX1_judgeEdges 100 = .ok (.ifCond .eq 29, 3) := by decide +kernel
theorem dX1_judgeEdges_103 : decode cX1_judgeEdges 103 = .ok (.aload_n 0, 1) := by decide +kernel
theorem dX1_judgeEdges_104 : decode cX1_judgeEdges 104 = .ok (.getfield 45, 3) := by decide +kernel
theorem dX1_judgeEdges_107 : decode cX1_judgeEdges 107 = .ok (.iload 5, 2) := by decide +kernel
theorem dX1_judgeEdges_109 : decode cX1_judgeEdges 109 = .ok (.iload 6, 2) := by decide +kernel
theorem dX1_judgeEdges_111 : decode cX1_judgeEdges 111 = .ok (.iload 5, 2) := by decide +kernel
theorem dX1_judgeEdges_113 : decode cX1_judgeEdges 113 = .ok (.iload 7, 2) := by decide +kernel
theorem dX1_judgeEdges_115 : decode cX1_judgeEdges 115 = .ok (.iload_n 2, 1) := by decide +kernel
theorem dX1_judgeEdges_116 : decode cX1_judgeEdges 116 = .ok (.iconst (-1), 1) := by decide +kernel
theorem dX1_judgeEdges_117 : decode cX1_judgeEdges 117 = .ok (.iload 7, 2) := by decide +kernel
theorem dX1_judgeEdges_119 : decode cX1_judgeEdges 119 = .ok (.iload 6, 2) := by decide +kernel
theorem dX1_judgeEdges_121 : decode cX1_judgeEdges 121 = .ok (.isub, 1) := by decide +kernel
theorem dX1_judgeEdges_122 : decode cX1_judgeEdges 122 = .ok (.i2l, 1) := by decide +kernel
theorem dX1_judgeEdges_123 : decode cX1_judgeEdges 123 = .ok (.invokevirtual 154, 3) := by decide +kernel
theorem dX1_judgeEdges_126 : decode cX1_judgeEdges 126 = .ok (.goto 26, 3) := by decide +kernel
theorem dX1_judgeEdges_129 : decode cX1_judgeEdges 129 = .ok (.aload_n 0, 1) := by decide +kernel
theorem dX1_judgeEdges_130 : decode cX1_judgeEdges 130 = .ok (.getfield 45, 3) := by decide +kernel
theorem dX1_judgeEdges_133 : decode cX1_judgeEdges 133 = .ok (.iload 6, 2) := by decide +kernel
theorem dX1_judgeEdges_135 : decode cX1_judgeEdges 135 = .ok (.iload 5, 2) := by decide +kernel
theorem dX1_judgeEdges_137 : decode cX1_judgeEdges 137 = .ok (.iload 7, 2) := by decide +kernel
theorem dX1_judgeEdges_139 : decode cX1_judgeEdges 139 = .ok (.iload 5, 2) := by decide +kernel
theorem dX1_judgeEdges_141 : decode cX1_judgeEdges 141 = .ok (.iload_n 2, 1) := by decide +kernel
theorem dX1_judgeEdges_142 : decode cX1_judgeEdges 142 = .ok (.iconst (-1), 1) := by decide +kernel
theorem dX1_judgeEdges_143 : decode cX1_judgeEdges 143 = .ok (.iload 7, 2) := by decide +kernel
theorem dX1_judgeEdges_145 : decode cX1_judgeEdges 145 = .ok (.iload 6, 2) := by decide +kernel
theorem dX1_judgeEdges_147 : decode cX1_judgeEdges 147 = .ok (.isub, 1) := by decide +kernel
theorem dX1_judgeEdges_148 : decode cX1_judgeEdges 148 = .ok (.i2l, 1) := by decide +kernel
theorem dX1_judgeEdges_149 : decode cX1_judgeEdges 149 = .ok (.invokevirtual 154, 3) := by decide +kernel
theorem dX1_judgeEdges_152 : decode cX1_judgeEdges 152 = .ok (.iinc 4 1, 3) := by decide +kernel
theorem dX1_judgeEdges_155 : decode cX1_judgeEdges 155 = .ok (.goto (-127), 3) := by decide +kernel
theorem dX1_judgeEdges_158 : decode cX1_judgeEdges 158 = .ok (.iinc 3 1, 3) := by decide +kernel
theorem dX1_judgeEdges_161 : decode cX1_judgeEdges 161 = .ok (.goto (-149), 3) := by decide +kernel
theorem dX1_judgeEdges_164 : decode cX1_judgeEdges 164 = .ok (.return_, 1) := by decide +kernel
set_option maxRecDepth 20000 in
theorem ggX1_judgeSpace_X1_across : GoodIn wsX1_judgeSpace wsX1_across := goodIn_r _ [7, 8, 9, 10, 1, 11, 12, 13, 14, 15, 16, 17, 18, 19, 20, 21, 22, 23, 24, 25, 26, 27, 28, 29, 30, 31, 32, 33, 34, 35, 36, 37, 38, 39, 40, 41, 6, 42, 43, 44, 45, 46, 47, 48, 49, 50, 51, 52, 53, 54, 55, 56, 57, 58, 59, 60, 61, 62, 63, 64, 65, 66, 67, 82, 83, 84, 85, 86, 87, 88, 89, 68, 69, 70, 71, 72, 73, 74, 75, 76, 77, 78, 79, 80, 81, 90, 91, 92, 93, 94, 95, 96] (by decide +kernel) (by decide +kernel)
set_option maxRecDepth 20000 in
theorem gX1_judgeSpace_X1_across : GoodIn wsX1_judgeSpace (wsV RX1 184 RX1 yX1_across wsX1_across) := goodIn_app (goodIn_of _ (by decide +kernel)) ggX1_judgeSpace_X1_across
theorem dX1_judgeSpace_0 : decode cX1_judgeSpace 0 = .ok (.aload_n 0, 1) := by decide +kernel
theorem dX1_judgeSpace_1 : decode cX1_judgeSpace 1 = .ok (.iload_n 1, 1) := by decide +kernel
theorem dX1_judgeSpace_2 : decode cX1_judgeSpace 2 = .ok (.iconst 0, 1) := by decide +kernel
theorem dX1_judgeSpace_3 : decode cX1_judgeSpace 3 = .ok (.iload_n 2, 1) := by decide +kernel
theorem dX1_judgeSpace_4 : decode cX1_judgeSpace 4 = .ok (.iconst 2, 1) := by decide +kernel
theorem dX1_judgeSpace_5 : decode cX1_judgeSpace 5 = .ok (.aload_n 0, 1) := by decide +kernel
theorem dX1_judgeSpace_6 : decode cX1_judgeSpace 6 = .ok (.getfield 30, 3) := by decide +kernel
theorem dX1_judgeSpace_9 : decode cX1_judgeSpace 9 = .ok (.getfield 172, 3) := by decide +kernel
theorem dX1_judgeSpace_12 : decode cX1_judgeSpace 12 = .ok (.iload_n 1, 1) := by decide +kernel
theorem dX1_judgeSpace_13 : decode cX1_judgeSpace 13 = .ok (.iaload, 1) := by decide +kernel
theorem dX1_judgeSpace_14 : decode cX1_judgeSpace 14 = .ok (.aload_n 0, 1) := by decide +kernel
theorem dX1_judgeSpace_15 : decode cX1_judgeSpace 15 = .ok (.getfield 30, 3) := by decide +kernel
theorem dX1_judgeSpace_18 : decode cX1_judgeSpace 18 = .ok (.getfield 172, 3) := by decide +kernel
theorem dX1_judgeSpace_21 : decode cX1_judgeSpace 21 = .ok (.iload_n 2, 1) := by decide +kernel
theorem dX1_judgeSpace_22 : decode cX1_judgeSpace 22 = .ok (.iaload, 1) := by decide +kernel
theorem dX1_judgeSpace_23 : decode cX1_judgeSpace 23 = .ok (.invokevirtual 184, 3) := by decide +kernel
theorem dX1_judgeSpace_26 : decode cX1_judgeSpace 26 = .ok (.aload_n 0, 1) := by decide +kernel
theorem dX1_judgeSpace_27 : decode cX1_judgeSpace 27 = .ok (.iload_n 1, 1) := by decide +kernel
theorem dX1_judgeSpace_28 : decode cX1_judgeSpace 28 = .ok (.iconst 1, 1) := by decide +kernel
theorem dX1_judgeSpace_29 : decode cX1_judgeSpace 29 = .ok (.iload_n 2, 1) := by decide +kernel
theorem dX1_judgeSpace_30 : decode cX1_judgeSpace 30 = .ok (.iconst 3, 1) := by decide +kernel
theorem dX1_judgeSpace_31 : decode cX1_judgeSpace 31 = .ok (.aload_n 0, 1) := by decide +kernel
theorem dX1_judgeSpace_32 : decode cX1_judgeSpace 32 = .ok (.getfield 30, 3) := by decide +kernel
theorem dX1_judgeSpace_35 : decode cX1_judgeSpace 35 = .ok (.getfield 172, 3) := by decide +kernel
theorem dX1_judgeSpace_38 : decode cX1_judgeSpace 38 = .ok (.iload_n 1, 1) := by decide +kernel
theorem dX1_judgeSpace_39 : decode cX1_judgeSpace 39 = .ok (.iaload, 1) := by decide +kernel
theorem dX1_judgeSpace_40 : decode cX1_judgeSpace 40 = .ok (.aload_n 0, 1) := by decide +kernel
theorem dX1_judgeSpace_41 : decode cX1_judgeSpace 41 = .ok (.getfield 30, 3) := by decide +kernel
theorem dX1_judgeSpace_44 : decode cX1_judgeSpace 44 = .ok (.getfield 172, 3) := by decide +kernel
theorem dX1_judgeSpace_47 : decode cX1_judgeSpace 47 = .ok (.iload_n 2, 1) := by decide +kernel
theorem dX1_judgeSpace_48 : decode cX1_judgeSpace 48 = .ok (.iaload, 1) := by decide +kernel
theorem dX1_judgeSpace_49 : decode cX1_judgeSpace 49 = .ok (.invokevirtual 184, 3) := by decide +kernel
theorem dX1_judgeSpace_52 : decode cX1_judgeSpace 52 = .ok (.return_, 1) := by decide +kernel
set_option maxRecDepth 20000 in
theorem ggX1_judgeOverlap_X1_across : GoodIn wsX1_judgeOverlap wsX1_across := goodIn_r _ [7, 8, 9, 10, 1, 11, 12, 13, 14, 15, 16, 17, 18, 19, 20, 21, 22, 23, 24, 25, 26, 27, 28, 29, 30, 31, 32, 33, 34, 35, 36, 37, 38, 39, 40, 41, 6, 42, 43, 44, 45, 46, 47, 48, 49, 50, 51, 52, 53, 54, 55, 56, 57, 58, 59, 60, 61, 62, 63, 64, 65, 66, 67, 82, 83, 84, 85, 86, 87, 88, 89, 68, 69, 70, 71, 72, 73, 74, 75, 76, 77, 78, 79, 80, 81, 90, 91, 92, 93, 94, 95, 96] (by decide +kernel) (by decide +kernel)
set_option maxRecDepth 20000 in
theorem gX1_judgeOverlap_X1_across : GoodIn wsX1_judgeOverlap (wsV RX1 184 RX1 yX1_across wsX1_across) := goodIn_app (goodIn_of _ (by decide +kernel)) ggX1_judgeOverlap_X1_across
theorem dX1_judgeOverlap_0 : decode cX1_judgeOverlap 0 = .ok (.aload_n 0, 1) := by decide +kernel
theorem dX1_judgeOverlap_1 : decode cX1_judgeOverlap 1 = .ok (.iload_n 2, 1) := by decide +kernel
theorem dX1_judgeOverlap_2 : decode cX1_judgeOverlap 2 = .ok (.iconst 2, 1) := by decide +kernel
theorem dX1_judgeOverlap_3 : decode cX1_judgeOverlap 3 = .ok (.iload_n 1, 1) := by decide +kernel
theorem dX1_judgeOverlap_4 : decode cX1_judgeOverlap 4 = .ok (.iconst 0, 1) := by decide +kernel
theorem dX1_judgeOverlap_5 : decode cX1_judgeOverlap 5 = .ok (.aload_n 0, 1) := by decide +kernel
theorem dX1_judgeOverlap_6 : decode cX1_judgeOverlap 6 = .ok (.getfield 30, 3) := by decide +kernel
theorem dX1_judgeOverlap_9 : decode cX1_judgeOverlap 9 = .ok (.getfield 172, 3) := by decide +kernel
theorem dX1_judgeOverlap_12 : decode cX1_judgeOverlap 12 = .ok (.iload_n 1, 1) := by decide +kernel
theorem dX1_judgeOverlap_13 : decode cX1_judgeOverlap 13 = .ok (.iaload, 1) := by decide +kernel
theorem dX1_judgeOverlap_14 : decode cX1_judgeOverlap 14 = .ok (.aload_n 0, 1) := by decide +kernel
theorem dX1_judgeOverlap_15 : decode cX1_judgeOverlap 15 = .ok (.getfield 30, 3) := by decide +kernel
theorem dX1_judgeOverlap_18 : decode cX1_judgeOverlap 18 = .ok (.getfield 172, 3) := by decide +kernel
theorem dX1_judgeOverlap_21 : decode cX1_judgeOverlap 21 = .ok (.iload_n 2, 1) := by decide +kernel
theorem dX1_judgeOverlap_22 : decode cX1_judgeOverlap 22 = .ok (.iaload, 1) := by decide +kernel
theorem dX1_judgeOverlap_23 : decode cX1_judgeOverlap 23 = .ok (.invokevirtual 184, 3) := by decide +kernel
theorem dX1_judgeOverlap_26 : decode cX1_judgeOverlap 26 = .ok (.aload_n 0, 1) := by decide +kernel
theorem dX1_judgeOverlap_27 : decode cX1_judgeOverlap 27 = .ok (.iload_n 2, 1) := by decide +kernel
theorem dX1_judgeOverlap_28 : decode cX1_judgeOverlap 28 = .ok (.iconst 3, 1) := by decide +kernel
theorem dX1_judgeOverlap_29 : decode cX1_judgeOverlap 29 = .ok (.iload_n 1, 1) := by decide +kernel
theorem dX1_judgeOverlap_30 : decode cX1_judgeOverlap 30 = .ok (.iconst 1, 1) := by decide +kernel
theorem dX1_judgeOverlap_31 : decode cX1_judgeOverlap 31 = .ok (.aload_n 0, 1) := by decide +kernel
theorem dX1_judgeOverlap_32 : decode cX1_judgeOverlap 32 = .ok (.getfield 30, 3) := by decide +kernel
theorem dX1_judgeOverlap_35 : decode cX1_judgeOverlap 35 = .ok (.getfield 172, 3) := by decide +kernel
theorem dX1_judgeOverlap_38 : decode cX1_judgeOverlap 38 = .ok (.iload_n 1, 1) := by decide +kernel
theorem dX1_judgeOverlap_39 : decode cX1_judgeOverlap 39 = .ok (.iaload, 1) := by decide +kernel
theorem dX1_judgeOverlap_40 : decode cX1_judgeOverlap 40 = .ok (.aload_n 0, 1) := by decide +kernel
theorem dX1_judgeOverlap_41 : decode cX1_judgeOverlap 41 = .ok (.getfield 30, 3) := by decide +kernel
theorem dX1_judgeOverlap_44 : decode cX1_judgeOverlap 44 = .ok (.getfield 172, 3) := by decide +kernel
theorem dX1_judgeOverlap_47 : decode cX1_judgeOverlap 47 = .ok (.iload_n 2, 1) := by decide +kernel
theorem dX1_judgeOverlap_48 : decode cX1_judgeOverlap 48 = .ok (.iaload, 1) := by decide +kernel
theorem dX1_judgeOverlap_49 : decode cX1_judgeOverlap 49 = .ok (.invokevirtual 184, 3) := by decide +kernel
theorem dX1_judgeOverlap_52 : decode cX1_judgeOverlap 52 = .ok (.return_, 1) := by decide +kernel
set_option maxRecDepth 20000 in
theorem ggX1_judgeEnclosing_X8_polygonOf : GoodIn wsX1_judgeEnclosing wsX8_polygonOf := goodIn_r _ [11, 12, 13, 14, 96, 97, 98, 99, 100, 101, 102, 103, 104, 105, 106, 107, 108, 109, 110, 111, 112, 113, 114, 115, 116, 117, 118, 119] (by decide +kernel) (by decide +kernel)
set_option maxRecDepth 20000 in
theorem gX1_judgeEnclosing_X8_polygonOf : GoodIn wsX1_judgeEnclosing (wsV RX1 125 RX8 yX8_polygonOf wsX8_polygonOf) := goodIn_app (goodIn_of _ (by decide +kernel)) ggX1_judgeEnclosing_X8_polygonOf
set_option maxRecDepth 20000 in
theorem ggX1_judgeEnclosing_X1_across : GoodIn wsX1_judgeEnclosing wsX1_across := goodIn_r _ [19, 3, 20, 21, 1, 22, 23, 24, 25, 26, 27, 28, 29, 30, 31, 32, 33, 34, 35, 36, 10, 37, 38, 39, 40, 41, 42, 43, 44, 45, 46, 47, 48, 49, 50, 51, 18, 52, 53, 54, 55, 56, 57, 58, 59, 60, 61, 62, 63, 64, 65, 66, 67, 68, 69, 70, 71, 72, 73, 74, 75, 76, 77, 88, 89, 90, 91, 92, 93, 94, 95, 96, 97, 98, 99, 100, 101, 102, 103, 104, 105, 106, 107, 108, 109, 120, 121, 122, 123, 124, 125, 126] (by decide +kernel) (by decide +kernel)
set_option maxRecDepth 20000 in
theorem gX1_judgeEnclosing_X1_across : GoodIn wsX1_judgeEnclosing (wsV RX1 184 RX1 yX1_across wsX1_across) := goodIn_app (goodIn_of _ (by decide +kernel)) ggX1_judgeEnclosing_X1_across
theorem dX1_judgeEnclosing_0 : decode cX1_judgeEnclosing 0 = .ok (.aload_n 0, 1) := by decide +kernel
theorem dX1_judgeEnclosing_1 : decode cX1_judgeEnclosing 1 = .ok (.getfield 30, 3) := by decide +kernel
theorem dX1_judgeEnclosing_4 : decode cX1_judgeEnclosing 4 = .ok (.iload_n 1, 1) := by decide +kernel
theorem dX1_judgeEnclosing_5 : decode cX1_judgeEnclosing 5 = .ok (.invokevirtual 125, 3) := by decide +kernel
theorem dX1_judgeEnclosing_8 : decode cX1_judgeEnclosing 8 = .ok (.getfield 129, 3) := by decide +kernel
theorem dX1_judgeEnclosing_11 : decode cX1_judgeEnclosing 11 = .ok (.aload_n 0, 1) := by decide +kernel
theorem dX1_judgeEnclosing_12 : decode cX1_judgeEnclosing 12 = .ok (.getfield 41, 3) := by decide +kernel
theorem dX1_judgeEnclosing_15 : decode cX1_judgeEnclosing 15 = .ok (.getfield 134, 3) := by decide +kernel
theorem dX1_judgeEnclosing_18 : decode cX1_judgeEnclosing 18 = .ok (.if_icmp .ne 28, 3) := by decide +kernel
theorem dX1_judgeEnclosing_21 : decode cX1_judgeEnclosing 21 = .ok (.aload_n 0, 1) := by decide +kernel
theorem dX1_judgeEnclosing_22 : decode cX1_judgeEnclosing 22 = .ok (.getfield 30, 3) := by decide +kernel
theorem dX1_judgeEnclosing_25 : decode cX1_judgeEnclosing 25 = .ok (.iload_n 2, 1) := by decide +kernel
theorem dX1_judgeEnclosing_26 : decode cX1_judgeEnclosing 26 = .ok (.invokevirtual 125, 3) := by decide +kernel
theorem dX1_judgeEnclosing_29 : decode cX1_judgeEnclosing 29 = .ok (.getfield 129, 3) := by decide +kernel
theorem dX1_judgeEnclosing_32 : decode cX1_judgeEnclosing 32 = .ok (.aload_n 0, 1) := by decide +kernel
theorem dX1_judgeEnclosing_33 : decode cX1_judgeEnclosing 33 = .ok (.getfield 41, 3) := by decide +kernel
theorem dX1_judgeEnclosing_36 : decode cX1_judgeEnclosing 36 = .ok (.getfield 238, 3) := by decide +kernel
theorem dX1_judgeEnclosing_39 : decode cX1_judgeEnclosing 39 = .ok (.if_icmp .ne 7, 3) := by decide +kernel
theorem dX1_judgeEnclosing_42 : decode cX1_judgeEnclosing 42 = .ok (.iconst 1, 1) := by decide +kernel
theorem dX1_judgeEnclosing_43 : decode cX1_judgeEnclosing 43 = .ok (.goto 4, 3) := by decide +kernel
theorem dX1_judgeEnclosing_46 : decode cX1_judgeEnclosing 46 = .ok (.iconst 0, 1) := by decide +kernel
theorem dX1_judgeEnclosing_47 : decode cX1_judgeEnclosing 47 = .ok (.istore_n 3, 1) := by decide +kernel
theorem dX1_judgeEnclosing_48 : decode cX1_judgeEnclosing 48 = .ok (.iload_n 3, 1) := by decide +kernel
theorem dX1_judgeEnclosing_49 : decode cX1_judgeEnclosing 49 = .ok (.ifCond .eq 73, 3) := by decide +kernel
theorem dX1_judgeEnclosing_52 : decode cX1_judgeEnclosing 52 = .ok (.aload_n 0, 1) := by decide +kernel
theorem dX1_judgeEnclosing_53 : decode cX1_judgeEnclosing 53 = .ok (.getfield 30, 3) := by decide +kernel
theorem dX1_judgeEnclosing_56 : decode cX1_judgeEnclosing 56 = .ok (.getfield 172, 3) := by decide +kernel
theorem dX1_judgeEnclosing_59 : decode cX1_judgeEnclosing 59 = .ok (.iload_n 1, 1) := by decide +kernel
theorem dX1_judgeEnclosing_60 : decode cX1_judgeEnclosing 60 = .ok (.iaload, 1) := by decide +kernel
theorem dX1_judgeEnclosing_61 : decode cX1_judgeEnclosing 61 = .ok (.istore 4, 2) := by decide +kernel
theorem dX1_judgeEnclosing_63 : decode cX1_judgeEnclosing 63 = .ok (.aload_n 0, 1) := by decide +kernel
theorem dX1_judgeEnclosing_64 : decode cX1_judgeEnclosing 64 = .ok (.getfield 30, 3) := by decide +kernel
theorem dX1_judgeEnclosing_67 : decode cX1_judgeEnclosing 67 = .ok (.getfield 172, 3) := by decide +kernel
theorem dX1_judgeEnclosing_70 : decode cX1_judgeEnclosing 70 = .ok (.iload_n 2, 1) := by decide +kernel
theorem dX1_judgeEnclosing_71 : decode cX1_judgeEnclosing 71 = .ok (.iaload, 1) := by decide +kernel
theorem dX1_judgeEnclosing_72 : decode cX1_judgeEnclosing 72 = .ok (.istore 5, 2) := by decide +kernel
theorem dX1_judgeEnclosing_74 : decode cX1_judgeEnclosing 74 = .ok (.aload_n 0, 1) := by decide +kernel
theorem dX1_judgeEnclosing_75 : decode cX1_judgeEnclosing 75 = .ok (.iload_n 1, 1) := by decide +kernel
theorem dX1_judgeEnclosing_76 : decode cX1_judgeEnclosing 76 = .ok (.iconst 0, 1) := by decide +kernel
theorem dX1_judgeEnclosing_77 : decode cX1_judgeEnclosing 77 = .ok (.iload_n 2, 1) := by decide +kernel
theorem dX1_judgeEnclosing_78 : decode cX1_judgeEnclosing 78 = .ok (.iconst 0, 1) := by decide +kernel
theorem dX1_judgeEnclosing_79 : decode cX1_judgeEnclosing 79 = .ok (.iload 4, 2) := by decide +kernel
theorem dX1_judgeEnclosing_81 : decode cX1_judgeEnclosing 81 = .ok (.iload 5, 2) := by decide +kernel
theorem dX1_judgeEnclosing_83 : decode cX1_judgeEnclosing 83 = .ok (.invokevirtual 184, 3) := by decide +kernel
theorem dX1_judgeEnclosing_86 : decode cX1_judgeEnclosing 86 = .ok (.aload_n 0, 1) := by decide +kernel
theorem dX1_judgeEnclosing_87 : decode cX1_judgeEnclosing 87 = .ok (.iload_n 1, 1) := by decide +kernel
theorem dX1_judgeEnclosing_88 : decode cX1_judgeEnclosing 88 = .ok (.iconst 1, 1) := by decide +kernel
theorem dX1_judgeEnclosing_89 : decode cX1_judgeEnclosing 89 = .ok (.iload_n 2, 1) := by decide +kernel
theorem dX1_judgeEnclosing_90 : decode cX1_judgeEnclosing 90 = .ok (.iconst 1, 1) := by decide +kernel
theorem dX1_judgeEnclosing_91 : decode cX1_judgeEnclosing 91 = .ok (.iload 4, 2) := by decide +kernel
theorem dX1_judgeEnclosing_93 : decode cX1_judgeEnclosing 93 = .ok (.iload 5, 2) := by decide +kernel
theorem dX1_judgeEnclosing_95 : decode cX1_judgeEnclosing 95 = .ok (.invokevirtual 184, 3) := by decide +kernel
theorem dX1_judgeEnclosing_98 : decode cX1_judgeEnclosing 98 = .ok (.aload_n 0, 1) := by decide +kernel
theorem dX1_judgeEnclosing_99 : decode cX1_judgeEnclosing 99 = .ok (.iload_n 2, 1) := by decide +kernel
theorem dX1_judgeEnclosing_100 : decode cX1_judgeEnclosing 100 = .ok (.iconst 2, 1) := by decide +kernel
theorem dX1_judgeEnclosing_101 : decode cX1_judgeEnclosing 101 = .ok (.iload_n 1, 1) := by decide +kernel
theorem dX1_judgeEnclosing_102 : decode cX1_judgeEnclosing 102 = .ok (.iconst 2, 1) := by decide +kernel
theorem dX1_judgeEnclosing_103 : decode cX1_judgeEnclosing 103 = .ok (.iload 4, 2) := by decide +kernel
theorem dX1_judgeEnclosing_105 : decode cX1_judgeEnclosing 105 = .ok (.iload 5, 2) := by decide +kernel
theorem dX1_judgeEnclosing_107 : decode cX1_judgeEnclosing 107 = .ok (.invokevirtual 184, 3) := by decide +kernel
theorem dX1_judgeEnclosing_110 : decode cX1_judgeEnclosing 110 = .ok (.aload_n 0, 1) := by decide +kernel
theorem dX1_judgeEnclosing_111 : decode cX1_judgeEnclosing 111 = .ok (.iload_n 2, 1) := by decide +kernel
theorem dX1_judgeEnclosing_112 : decode cX1_judgeEnclosing 112 = .ok (.iconst 3, 1) := by decide +kernel
theorem dX1_judgeEnclosing_113 : decode cX1_judgeEnclosing 113 = .ok (.iload_n 1, 1) := by decide +kernel
theorem dX1_judgeEnclosing_114 : decode cX1_judgeEnclosing 114 = .ok (.iconst 3, 1) := by decide +kernel
theorem dX1_judgeEnclosing_115 : decode cX1_judgeEnclosing 115 = .ok (.iload 4, 2) := by decide +kernel
theorem dX1_judgeEnclosing_117 : decode cX1_judgeEnclosing 117 = .ok (.iload 5, 2) := by decide +kernel
theorem dX1_judgeEnclosing_119 : decode cX1_judgeEnclosing 119 = .ok (.invokevirtual 184, 3) := by decide +kernel
theorem dX1_judgeEnclosing_122 : decode cX1_judgeEnclosing 122 = .ok (.return_, 1) := by decide +kernel
theorem dJx29ce0_ordinal_8abf5_0 : decode cJx29ce0_ordinal_8abf5 0 = .ok (.aload_n 0, 1) := by decide +kernel
theorem dJx29ce0_ordinal_8abf5_1 : decode cJx29ce0_ordinal_8abf5 1 = .ok (.getfield 7, 3) := by decide +kernel
theorem dJx29ce0_ordinal_8abf5_4 : decode cJx29ce0_ordinal_8abf5 4 = .ok (.ireturn, 1) := by decide +kernel

abbrev mJx29ce0_ordinal_8abf5 : sv_M := (cJx29ce0_ordinal_8abf5, 1, yJx29ce0_ordinal_8abf5, wsJx29ce0_ordinal_8abf5, (some .int), { frames := 0, cells := 0, slots := 0, locals := 0 }, [])
abbrev mX1_judgeSpace : sv_M := (cX1_judgeSpace, 3, yX1_judgeSpace, wsX1_judgeSpace, none, { frames := 8, cells := 0, slots := 0, locals := 350 }, [])
abbrev mX1_judgeOverlap : sv_M := (cX1_judgeOverlap, 3, yX1_judgeOverlap, wsX1_judgeOverlap, none, { frames := 8, cells := 0, slots := 0, locals := 350 }, [])
abbrev mX1_judgeEnclosing : sv_M := (cX1_judgeEnclosing, 6, yX1_judgeEnclosing, wsX1_judgeEnclosing, none, { frames := 8, cells := 0, slots := 0, locals := 350 }, [])
abbrev mX1_judgeMeasure : sv_M := (cX1_judgeMeasure, 5, yX1_judgeMeasure, wsX1_judgeMeasure, none, { frames := 4, cells := 0, slots := 0, locals := 150 }, [])
abbrev mX1_judgeEdges : sv_M := (cX1_judgeEdges, 8, yX1_judgeEdges, wsX1_judgeEdges, none, { frames := 4, cells := 0, slots := 0, locals := 150 }, [])
section SVU
variable {G : sv_G} {M M' : sv_M} {P : sv_P} {pc : Nat} {L : List (Nat × Value)} {S : List Value} {h : sv_h} {z ce sl index n : Nat} {As : List Value} {ws' : List Cond} {Qr : Option Value → sv_h → Nat → Prop}
/-- a method of a constant of Kind that its class has from above -/
theorem v_callU {i : Nat} {x : MethodName} {owner : String} (hg : GoodIn M.2.2.2.1 (va_wsU M.2.2.1.cls index "RuleDeck$Kind" owner x M'.2.2.1 M'.2.2.2.1)) (hw : M'.2.2.2.1 = Cond.code M'.2.2.1 M'.1 M'.2.1 M'.2.2.2.2.1 :: ws') (hyx : M'.2.2.1 = ⟨owner, x.name, x.desc⟩) (hd : owner ≠ "java/lang/invoke/MethodHandle" ∧ owner ≠ "java/lang/invoke/VarHandle" ∧ (parseMethodDescriptor x.desc).map (fun d => d.parameters.length) = some n) (hR : M'.2.2.2.2.2.1.frames + 1 ≤ M.2.2.2.2.2.1.frames ∧ 8 + (M'.2.1 + 11) + M'.2.2.2.2.2.1.locals ≤ M.2.2.2.2.2.1.locals) (hdg : decode M.1 pc = .ok (.invokevirtual index, 3)) (hn : As.length = n) (hf : ce + M'.2.2.2.2.2.1.cells ≤ M.2.2.2.2.2.1.cells ∧ sl + M'.2.2.2.2.2.1.slots ≤ M.2.2.2.2.2.1.slots) (hst : (S.map fun v => v.category).sum ≤ 8) (hi : i < 11)
    {S0 : List Value} (hS0 : S0 = As.reverse ++ .ref (G.2.2.2.2.1 i) :: S) (ct : CT G M' (.ref (G.2.2.2.2.1 i) :: As) h z Qr) (kk : ∀ (v : Option Value) (h' : sv_h) (z' : Nat), Qr v h' z' → V G M P (pc + 3) L (v.toList ++ S) h' z' (ce + M'.2.2.2.2.2.1.cells) (sl + M'.2.2.2.2.2.1.slots)) : V G M P pc L S0 h z ce sl := by
  intro p e s m args below meth c H locs ls C K Z hS hH hl
  have hrec := va_recvE (i := i) Z.2.2.2.2.2.1.1 hi hS
  refine sv_go (va_runU (As := As) (b := G.2.2.2.2.1 i) (rest := S) ⟨C.1, C.2.1, C.2.2.1, C.2.2.2.1, C.2.2.2.2.1⟩ ct (va_cwU n C.2.2.2.2.1 hg hw rfl rfl hyx hd hR) ⟨sv_blind, hrec, sv_pre K Z hS hH⟩ rfl hn hl.1 hS0 (lv_room hst) hdg hf) hS ?_
  exact fun v h' z' H1 locs1 hq hH1 hS1 => kk v h' z' hq p e s m args below meth c H1 locs1 ls C K Z hS1 hH1 hl
end SVU
theorem k_ord : ∀ i, i < 11 → ([0, 1, 2, 3, 4, 5, 6, 7, 8, 9, 10] : List Int32).getD i 0 = nI i := by decide
set_option maxHeartbeats 4000000 in
set_option maxRecDepth 100000 in
theorem c_ordinal (G : sv_G) (h : sv_h) (z i : Nat) (hi : i < 11) : CT G mJx29ce0_ordinal_8abf5 [.ref (G.2.2.2.2.1 i)] h z (fun v h1 z1 => v = some (.int (nI i)) ∧ h1 = h ∧ z1 = z) := by
  refine CT.of (by decide +kernel) rfl rfl (Nat.le_of_ble_eq_true rfl) ?_
  refine v_aload_n dJx29ce0_ordinal_8abf5_0 rfl 0 rfl ?_
  refine v_kint (q := ("java/lang/Enum", "ordinal", "I", [0, 1, 2, 3, 4, 5, 6, 7, 8, 9, 10])) hi (by decide) (k_ord i hi) (by decide +kernel) dJx29ce0_ordinal_8abf5_1 ?_
  exact v_iret rfl dJx29ce0_ordinal_8abf5_4 (Nat.le_of_ble_eq_true rfl) (Nat.le_of_ble_eq_true rfl) rfl ⟨rfl, rfl, rfl⟩

def acq (kd : Nat) (x3 x4 x6 : Int32) (hmI : Int) (T : List Nat × Nat → Nat → List (Int × Int × Int)) (S : List (List Nat × Nat)) (i f j g : Nat) (a c : Int) : List (List Int64) := acL (upr f) (if kd = 9 then 0 else 1) x3.toInt (lrn x4).toInt x6 a c hmI (T (S.getD i ([], 0)) f) (T (S.getD j ([], 0)) g)
theorem c_acrossN (G : sv_G) (hki : sv_ki G) (hb : sv_h) (z b : Nat) (k : Int32) (nc np pl : Nat) (R : Nat → Bool) (hm pa sz : Nat → Nat) (ly vo ar : Nat → Int32) (X Y : Nat → Nat → Int) (fc : Nat → Nat → Nat) (oc : Nat → Nat → Option Nat) (mp : Nat → mvT) (w3 : Bool) (T : List Nat × Nat → Nat → List (Int × Int × Int)) (S : List (List Nat × Nat)) (q t : Nat) (n0 : Int64) (kd : Nat) (l1 l2 x3 x4 x5 x6 : Int32) (K : ck_ G w3 b k nc np pl R hm pa sz ly vo ar X Y fc oc mp T S q t n0 kd l1 l2 x3 x4 x5 x6 hb) (hw : w3 = true) (hmI : Int) (hbm : bd hmI) (a c : Int) (hba : bd a) (hbc : bd c) (i : Nat) (hi : i < S.length) (f : Nat) (hf : f < 4) (j : Nat) (hj : j < S.length) (g : Nat) (hg : g < 4) (h : sv_h) (fr : ∀ a, ¬ (t ≤ a ∧ a < t + 4) → h a = hb a) (E0 : List (List Int64)) (H : tE G h t (iN hmI) E0) {fv gv av cv : Int32} (e1 : fv = nI f) (e2 : gv = nI g) (e3 : av = iN a) (e4 : cv = iN c) : CT G mX1_across [.ref (b + 32), .int (nI i), .int fv, .int (nI j), .int gv, .int av, .int cv] h z (fun v h1 z1 => v = none ∧ z1 = z ∧ tE G h1 t (iN hmI) (E0 ++ acq kd x3 x4 x6 hmI T S i f j g a c) ∧ ∀ a, ¬ (t ≤ a ∧ a < t + 4) → h1 a = hb a) := by
  subst e1 e2 e3 e4
  exact c_across G hki hb z b k nc np pl R hm pa sz ly vo ar X Y fc oc mp w3 T S q t n0 kd l1 l2 x3 x4 x5 x6 K hw hmI hbm a c hba hbc i hi f hf j hj g hg h fr E0 H
def jSp (kd : Nat) (x3 x4 x6 : Int32) (hmI : Int) (T : List Nat × Nat → Nat → List (Int × Int × Int)) (S : List (List Nat × Nat)) (i j : Nat) : List (List Int64) := acq kd x3 x4 x6 hmI T S i 0 j 2 ((S.getD i ([], 0)).2 : Int) ((S.getD j ([], 0)).2 : Int) ++ acq kd x3 x4 x6 hmI T S i 1 j 3 ((S.getD i ([], 0)).2 : Int) ((S.getD j ([], 0)).2 : Int)
def jOv (kd : Nat) (x3 x4 x6 : Int32) (hmI : Int) (T : List Nat × Nat → Nat → List (Int × Int × Int)) (S : List (List Nat × Nat)) (i j : Nat) : List (List Int64) := acq kd x3 x4 x6 hmI T S j 2 i 0 ((S.getD i ([], 0)).2 : Int) ((S.getD j ([], 0)).2 : Int) ++ acq kd x3 x4 x6 hmI T S j 3 i 1 ((S.getD i ([], 0)).2 : Int) ((S.getD j ([], 0)).2 : Int)
def jEn (kd : Nat) (x3 x4 x6 : Int32) (hmI : Int) (T : List Nat × Nat → Nat → List (Int × Int × Int)) (S : List (List Nat × Nat)) (ly : Nat → Int32) (l1 l2 : Int32) (i j : Nat) : List (List Int64) := if ly (S.getD i ([], 0)).2 = l1 ∧ ly (S.getD j ([], 0)).2 = l2 then acq kd x3 x4 x6 hmI T S i 0 j 0 ((S.getD i ([], 0)).2 : Int) ((S.getD j ([], 0)).2 : Int) ++ (acq kd x3 x4 x6 hmI T S i 1 j 1 ((S.getD i ([], 0)).2 : Int) ((S.getD j ([], 0)).2 : Int) ++ (acq kd x3 x4 x6 hmI T S j 2 i 2 ((S.getD i ([], 0)).2 : Int) ((S.getD j ([], 0)).2 : Int) ++ acq kd x3 x4 x6 hmI T S j 3 i 3 ((S.getD i ([], 0)).2 : Int) ((S.getD j ([], 0)).2 : Int))) else []
theorem sg_.frame {G : sv_G} {b : Nat} {k : Int32} {nc np pl : Nat} {R : Nat → Bool} {hm pa sz : Nat → Nat} {ly vo ar : Nat → Int32} {X Y : Nat → Nat → Int} {fc : Nat → Nat → Nat} {oc : Nat → Nat → Option Nat} {mp : Nat → mvT} {h1 h2 : sv_h} {S : List (List Nat × Nat)} (Z : sg_ G b k nc np pl R hm pa sz ly vo ar X Y fc oc mp h1 S) (fr : ∀ a, ¬ (b + 204 ≤ a ∧ a < b + 220) → h2 a = h1 a) : sg_ G b k nc np pl R hm pa sz ly vo ar X Y fc oc mp h2 S := by
  obtain ⟨z0, z1, ⟨fs, z2, z3⟩, ⟨fb_, z4, z5⟩, ⟨fl, z6, z7⟩, z8, z9, ⟨fq, zA, zB⟩, zC, zD, zE, zF⟩ := Z
  refine ⟨z0, (fr _ (by omega)).trans z1, ⟨fs, (fr _ (by omega)).trans z2, z3⟩, ⟨fb_, (fr _ (by omega)).trans z4, z5⟩, ⟨fl, (fr _ (by omega)).trans z6, z7⟩, fun i hi => (fr _ (by omega)).trans (z8 i hi), (fr _ (by omega)).trans z9, ⟨fq, (fr _ (by omega)).trans zA, zB⟩, fun p hp => ⟨(fr _ (by have := (zC p hp).2; omega)).trans (zC p hp).1, (zC p hp).2⟩, fun p hp hr => ?_, zE, zF⟩
  obtain ⟨fx, fy, ff, fo, v6, v7, v8, v9, vA⟩ := zD p hp hr
  have := (zC p hp).2
  exact ⟨fx, fy, ff, fo, (fr _ (by omega)).trans v6, (fr _ (by omega)).trans v7, (fr _ (by omega)).trans v8, (fr _ (by omega)).trans v9, vA⟩
theorem c_polyK (G : sv_G) (hb : sv_h) (z b : Nat) (k : Int32) (nc np pl : Nat) (R : Nat → Bool) (hm pa sz : Nat → Nat) (ly vo ar : Nat → Int32) (X Y : Nat → Nat → Int) (fc : Nat → Nat → Nat) (oc : Nat → Nat → Option Nat) (mp : Nat → mvT) (w3 : Bool) (T : List Nat × Nat → Nat → List (Int × Int × Int)) (S : List (List Nat × Nat)) (q t : Nat) (n0 : Int64) (kd : Nat) (l1 l2 x3 x4 x5 x6 : Int32) (K : ck_ G w3 b k nc np pl R hm pa sz ly vo ar X Y fc oc mp T S q t n0 kd l1 l2 x3 x4 x5 x6 hb) (h : sv_h) (fr : ∀ a, ¬ (t ≤ a ∧ a < t + 4) → h a = hb a) (i : Nat) (hi : i < S.length) : CT G mX8_polygonOf [.ref (b + 35), .int (nI i)] h z (fun v h2 z2 => v = some (.ref (pa (S.getD i ([], 0)).2)) ∧ h2 = h ∧ z2 = z) := by
  have e := K.2.2.2.2.2.2.1
  exact c_polygonOf G h z b k nc np pl R hm pa sz ly vo ar X Y fc oc mp S (K.1.frame (fun a p => fr a (by omega))) h (fun _ _ => rfl) i hi
