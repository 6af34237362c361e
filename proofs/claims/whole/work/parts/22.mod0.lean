theorem sv_ls {fs : List Value} {k : Nat} {v : Value} (h : k < fs.length) : (fs.set k v)[k]? = some v := by simp [h]
theorem iwX13_thrown_X13 : ∀ w ∈ wsX130, w ∈ wsX13_thrown := by decide +kernel
theorem iwX13_isCell_X13 : ∀ w ∈ wsX130, w ∈ wsX13_isCell := by decide +kernel
theorem iwX13_cell_X13 : ∀ w ∈ wsX130, w ∈ wsX13_cell := by decide +kernel
theorem iwX13_polygon_X13 : ∀ w ∈ wsX130, w ∈ wsX13_polygon := by decide +kernel
theorem iwX13_isPolygon_X13 : ∀ w ∈ wsX130, w ∈ wsX13_isPolygon := by decide +kernel
theorem iwX13_corner_X13 : ∀ w ∈ wsX130, w ∈ wsX13_corner := by decide +kernel
theorem iwX13_voltage_X13 : ∀ w ∈ wsX130, w ∈ wsX13_voltage := by decide +kernel
theorem iwX13_place_X13 : ∀ w ∈ wsX130, w ∈ wsX13_place := by decide +kernel
theorem iwX13_occurrences_X13 : ∀ w ∈ wsX130, w ∈ wsX13_occurrences := by decide +kernel
theorem iwX13_isRule_X13 : ∀ w ∈ wsX130, w ∈ wsX13_isRule := by decide +kernel
theorem iwX13_run_X13 : ∀ w ∈ wsX130, w ∈ wsX13_run := by decide +kernel
theorem iwX13_violation_X13 : ∀ w ∈ wsX130, w ∈ wsX13_violation := by decide +kernel
theorem iwX13_cellOf_X13 : ∀ w ∈ wsX130, w ∈ wsX13_cellOf := by decide +kernel
theorem iwX13_waive_X13 : ∀ w ∈ wsX130, w ∈ wsX13_waive := by decide +kernel
theorem iwX13_changed_X13 : ∀ w ∈ wsX130, w ∈ wsX13_changed := by decide +kernel
theorem iwX13_same_X13 : ∀ w ∈ wsX130, w ∈ wsX13_same := by decide +kernel
theorem dX13_thrown_0 : decode cX13_thrown 0 = .ok (.aload_n 0, 1) := by decide +kernel
theorem dX13_thrown_1 : decode cX13_thrown 1 = .ok (.getfield 141, 3) := by decide +kernel
theorem dX13_thrown_4 : decode cX13_thrown 4 = .ok (.ireturn, 1) := by decide +kernel
theorem dX13_isCell_0 : decode cX13_isCell 0 = .ok (.iload_n 1, 1) := by decide +kernel
theorem dX13_isCell_1 : decode cX13_isCell 1 = .ok (.ifCond .lt 15, 3) := by decide +kernel
theorem dX13_isCell_4 : decode cX13_isCell 4 = .ok (.iload_n 1, 1) := by decide +kernel
theorem dX13_isCell_5 : decode cX13_isCell 5 = .ok (.aload_n 0, 1) := by decide +kernel
theorem dX13_isCell_6 : decode cX13_isCell 6 = .ok (.getfield 148, 3) := by decide +kernel
theorem dX13_isCell_9 : decode cX13_isCell 9 = .ok (.if_icmp .ge 7, 3) := by decide +kernel
theorem dX13_isCell_12 : decode cX13_isCell 12 = .ok (.iconst 1, 1) := by decide +kernel
theorem dX13_isCell_13 : decode cX13_isCell 13 = .ok (.goto 4, 3) := by decide +kernel
theorem dX13_isCell_16 : decode cX13_isCell 16 = .ok (.iconst 0, 1) := by decide +kernel
theorem dX13_isCell_17 : decode cX13_isCell 17 = .ok (.ireturn, 1) := by decide +kernel
theorem dX13_cell_0 : decode cX13_cell 0 = .ok (.aload_n 0, 1) := by decide +kernel
theorem dX13_cell_1 : decode cX13_cell 1 = .ok (.aload_n 0, 1) := by decide +kernel
theorem dX13_cell_2 : decode cX13_cell 2 = .ok (.getfield 148, 3) := by decide +kernel
theorem dX13_cell_5 : decode cX13_cell 5 = .ok (.bipush 16, 2) := by decide +kernel
theorem dX13_cell_7 : decode cX13_cell 7 = .ok (.if_icmp .ne 7, 3) := by decide +kernel
theorem dX13_cell_10 : decode cX13_cell 10 = .ok (.iconst 1, 1) := by decide +kernel
theorem dX13_cell_11 : decode cX13_cell 11 = .ok (.goto 4, 3) := by decide +kernel
theorem dX13_cell_14 : decode cX13_cell 14 = .ok (.iconst 0, 1) := by decide +kernel
theorem dX13_cell_15 : decode cX13_cell 15 = .ok (.putfield 141, 3) := by decide +kernel
theorem dX13_cell_18 : decode cX13_cell 18 = .ok (.aload_n 0, 1) := by decide +kernel
theorem dX13_cell_19 : decode cX13_cell 19 = .ok (.getfield 141, 3) := by decide +kernel
theorem dX13_cell_22 : decode cX13_cell 22 = .ok (.ifCond .le 5, 3) := by decide +kernel
theorem dX13_cell_25 : decode cX13_cell 25 = .ok (.iconst 0, 1) := by decide +kernel
theorem dX13_cell_26 : decode cX13_cell 26 = .ok (.ireturn, 1) := by decide +kernel
theorem dX13_cell_27 : decode cX13_cell 27 = .ok (.aload_n 0, 1) := by decide +kernel
theorem dX13_cell_28 : decode cX13_cell 28 = .ok (.dup, 1) := by decide +kernel
theorem dX13_cell_29 : decode cX13_cell 29 = .ok (.getfield 148, 3) := by decide +kernel
theorem dX13_cell_32 : decode cX13_cell 32 = .ok (.iconst 1, 1) := by decide +kernel
theorem dX13_cell_33 : decode cX13_cell 33 = .ok (.iadd, 1) := by decide +kernel
theorem dX13_cell_34 : decode cX13_cell 34 = .ok (.putfield 148, 3) := by decide +kernel
theorem dX13_cell_37 : decode cX13_cell 37 = .ok (.aload_n 0, 1) := by decide +kernel
theorem dX13_cell_38 : decode cX13_cell 38 = .ok (.getfield 148, 3) := by decide +kernel
theorem dX13_cell_41 : decode cX13_cell 41 = .ok (.iconst 1, 1) := by decide +kernel
theorem dX13_cell_42 : decode cX13_cell 42 = .ok (.isub, 1) := by decide +kernel
theorem dX13_cell_43 : decode cX13_cell 43 = .ok (.ireturn, 1) := by decide +kernel
set_option maxRecDepth 20000 in
theorem ggX13_polygon_X13_isCell : GoodIn wsX13_polygon wsX13_isCell := goodIn_r _ [12, 13, 14, 15, 16, 17, 18, 19, 20, 21, 22, 23, 24, 25, 26, 27, 28, 29, 30, 31, 32, 33, 34, 35, 36, 37, 38, 39, 40, 41, 42, 43, 44, 45, 46, 47, 48, 49, 50, 51, 52, 53, 54, 55, 56, 57, 58, 59, 60, 61, 62, 63, 64, 65, 66, 67, 68, 69, 70, 71, 72, 73, 74, 75, 76, 77, 78, 79, 80, 81, 82, 83, 84] (by decide +kernel) (by decide +kernel)
set_option maxRecDepth 20000 in
theorem gX13_polygon_X13_isCell : GoodIn wsX13_polygon (wsV RX13 151 RX13 yX13_isCell wsX13_isCell) := goodIn_app (goodIn_of _ (by decide +kernel)) ggX13_polygon_X13_isCell
theorem dX13_polygon_0 : decode cX13_polygon 0 = .ok (.aload_n 0, 1) := by decide +kernel
theorem dX13_polygon_1 : decode cX13_polygon 1 = .ok (.aload_n 0, 1) := by decide +kernel
theorem dX13_polygon_2 : decode cX13_polygon 2 = .ok (.iload_n 1, 1) := by decide +kernel
theorem dX13_polygon_3 : decode cX13_polygon 3 = .ok (.invokevirtual 151, 3) := by decide +kernel
theorem dX13_polygon_6 : decode cX13_polygon 6 = .ok (.ifCond .eq 15, 3) := by decide +kernel
theorem dX13_polygon_9 : decode cX13_polygon 9 = .ok (.iload_n 2, 1) := by decide +kernel
theorem dX13_polygon_10 : decode cX13_polygon 10 = .ok (.ifCond .lt 11, 3) := by decide +kernel
theorem dX13_polygon_13 : decode cX13_polygon 13 = .ok (.iload_n 2, 1) := by decide +kernel
theorem dX13_polygon_14 : decode cX13_polygon 14 = .ok (.aload_n 0, 1) := by decide +kernel
theorem dX13_polygon_15 : decode cX13_polygon 15 = .ok (.getfield 138, 3) := by decide +kernel
theorem dX13_polygon_18 : decode cX13_polygon 18 = .ok (.if_icmp .lt 7, 3) := by decide +kernel
theorem dX13_polygon_21 : decode cX13_polygon 21 = .ok (.iconst 1, 1) := by decide +kernel
theorem dX13_polygon_22 : decode cX13_polygon 22 = .ok (.goto 17, 3) := by decide +kernel
theorem dX13_polygon_25 : decode cX13_polygon 25 = .ok (.aload_n 0, 1) := by decide +kernel
theorem dX13_polygon_26 : decode cX13_polygon 26 = .ok (.getfield 155, 3) := by decide +kernel
theorem dX13_polygon_29 : decode cX13_polygon 29 = .ok (.bipush 64, 2) := by decide +kernel
theorem dX13_polygon_31 : decode cX13_polygon 31 = .ok (.if_icmp .ne 7, 3) := by decide +kernel
theorem dX13_polygon_34 : decode cX13_polygon 34 = .ok (.iconst 2, 1) := by decide +kernel
theorem dX13_polygon_35 : decode cX13_polygon 35 = .ok (.goto 4, 3) := by decide +kernel
theorem dX13_polygon_38 : decode cX13_polygon 38 = .ok (.iconst 0, 1) := by decide +kernel
theorem dX13_polygon_39 : decode cX13_polygon 39 = .ok (.putfield 141, 3) := by decide +kernel
theorem dX13_polygon_42 : decode cX13_polygon 42 = .ok (.aload_n 0, 1) := by decide +kernel
theorem dX13_polygon_43 : decode cX13_polygon 43 = .ok (.getfield 141, 3) := by decide +kernel
theorem dX13_polygon_46 : decode cX13_polygon 46 = .ok (.ifCond .le 5, 3) := by decide +kernel
theorem dX13_polygon_49 : decode cX13_polygon 49 = .ok (.iconst 0, 1) := by decide +kernel
theorem dX13_polygon_50 : decode cX13_polygon 50 = .ok (.ireturn, 1) := by decide +kernel
theorem dX13_polygon_51 : decode cX13_polygon 51 = .ok (.aload_n 0, 1) := by decide +kernel
theorem dX13_polygon_52 : decode cX13_polygon 52 = .ok (.getfield 7, 3) := by decide +kernel
theorem dX13_polygon_55 : decode cX13_polygon 55 = .ok (.aload_n 0, 1) := by decide +kernel
theorem dX13_polygon_56 : decode cX13_polygon 56 = .ok (.getfield 155, 3) := by decide +kernel
theorem dX13_polygon_59 : decode cX13_polygon 59 = .ok (.iload_n 1, 1) := by decide +kernel
theorem dX13_polygon_60 : decode cX13_polygon 60 = .ok (.iastore, 1) := by decide +kernel
theorem dX13_polygon_61 : decode cX13_polygon 61 = .ok (.aload_n 0, 1) := by decide +kernel
theorem dX13_polygon_62 : decode cX13_polygon 62 = .ok (.getfield 13, 3) := by decide +kernel
theorem dX13_polygon_65 : decode cX13_polygon 65 = .ok (.aload_n 0, 1) := by decide +kernel
theorem dX13_polygon_66 : decode cX13_polygon 66 = .ok (.getfield 155, 3) := by decide +kernel
theorem dX13_polygon_69 : decode cX13_polygon 69 = .ok (.iload_n 2, 1) := by decide +kernel
theorem dX13_polygon_70 : decode cX13_polygon 70 = .ok (.iastore, 1) := by decide +kernel
theorem dX13_polygon_71 : decode cX13_polygon 71 = .ok (.aload_n 0, 1) := by decide +kernel
theorem dX13_polygon_72 : decode cX13_polygon 72 = .ok (.getfield 16, 3) := by decide +kernel
theorem dX13_polygon_75 : decode cX13_polygon 75 = .ok (.aload_n 0, 1) := by decide +kernel
theorem dX13_polygon_76 : decode cX13_polygon 76 = .ok (.getfield 155, 3) := by decide +kernel
theorem dX13_polygon_79 : decode cX13_polygon 79 = .ok (.lconst 0, 1) := by decide +kernel
theorem dX13_polygon_80 : decode cX13_polygon 80 = .ok (.lastore, 1) := by decide +kernel
theorem dX13_polygon_81 : decode cX13_polygon 81 = .ok (.aload_n 0, 1) := by decide +kernel
theorem dX13_polygon_82 : decode cX13_polygon 82 = .ok (.getfield 20, 3) := by decide +kernel
theorem dX13_polygon_85 : decode cX13_polygon 85 = .ok (.aload_n 0, 1) := by decide +kernel
theorem dX13_polygon_86 : decode cX13_polygon 86 = .ok (.getfield 155, 3) := by decide +kernel
theorem dX13_polygon_89 : decode cX13_polygon 89 = .ok (.iconst 0, 1) := by decide +kernel
theorem dX13_polygon_90 : decode cX13_polygon 90 = .ok (.iastore, 1) := by decide +kernel
theorem dX13_polygon_91 : decode cX13_polygon 91 = .ok (.aload_n 0, 1) := by decide +kernel
theorem dX13_polygon_92 : decode cX13_polygon 92 = .ok (.dup, 1) := by decide +kernel
theorem dX13_polygon_93 : decode cX13_polygon 93 = .ok (.getfield 155, 3) := by decide +kernel
theorem dX13_polygon_96 : decode cX13_polygon 96 = .ok (.iconst 1, 1) := by decide +kernel
theorem dX13_polygon_97 : decode cX13_polygon 97 = .ok (.iadd, 1) := by decide +kernel
theorem dX13_polygon_98 : decode cX13_polygon 98 = .ok (.putfield 155, 3) := by decide +kernel
theorem dX13_polygon_101 : decode cX13_polygon 101 = .ok (.aload_n 0, 1) := by decide +kernel
theorem dX13_polygon_102 : decode cX13_polygon 102 = .ok (.getfield 155, 3) := by decide +kernel
theorem dX13_polygon_105 : decode cX13_polygon 105 = .ok (.iconst 1, 1) := by decide +kernel
theorem dX13_polygon_106 : decode cX13_polygon 106 = .ok (.isub, 1) := by decide +kernel
theorem dX13_polygon_107 : decode cX13_polygon 107 = .ok (.ireturn, 1) := by decide +kernel
theorem dX13_isPolygon_0 : decode cX13_isPolygon 0 = .ok (.iload_n 1, 1) := by decide +kernel
theorem dX13_isPolygon_1 : decode cX13_isPolygon 1 = .ok (.ifCond .lt 15, 3) := by decide +kernel
theorem dX13_isPolygon_4 : decode cX13_isPolygon 4 = .ok (.iload_n 1, 1) := by decide +kernel
theorem dX13_isPolygon_5 : decode cX13_isPolygon 5 = .ok (.aload_n 0, 1) := by decide +kernel
theorem dX13_isPolygon_6 : decode cX13_isPolygon 6 = .ok (.getfield 155, 3) := by decide +kernel
theorem dX13_isPolygon_9 : decode cX13_isPolygon 9 = .ok (.if_icmp .ge 7, 3) := by decide +kernel
theorem dX13_isPolygon_12 : decode cX13_isPolygon 12 = .ok (.iconst 1, 1) := by decide +kernel
theorem dX13_isPolygon_13 : decode cX13_isPolygon 13 = .ok (.goto 4, 3) := by decide +kernel
theorem dX13_isPolygon_16 : decode cX13_isPolygon 16 = .ok (.iconst 0, 1) := by decide +kernel
theorem dX13_isPolygon_17 : decode cX13_isPolygon 17 = .ok (.ireturn, 1) := by decide +kernel
set_option maxRecDepth 20000 in
theorem ggX13_corner_X13_isPolygon : GoodIn wsX13_corner wsX13_isPolygon := goodIn_r _ [9, 10, 16, 17, 18, 19, 20, 21, 22, 23, 24, 25, 26, 27, 28, 29, 30, 31, 32, 33, 34, 35, 36, 37, 38, 39, 40, 41, 42, 43, 44, 45, 46, 47, 48, 49, 50, 51, 52, 53, 54, 55, 56, 57, 58, 59, 60, 61, 62, 63, 64, 65, 66, 67, 68, 69, 70, 71, 72, 73, 74, 75, 76, 77, 78, 79, 80, 81, 82, 83, 84, 85, 86] (by decide +kernel) (by decide +kernel)
set_option maxRecDepth 20000 in
theorem gX13_corner_X13_isPolygon : GoodIn wsX13_corner (wsV RX13 158 RX13 yX13_isPolygon wsX13_isPolygon) := goodIn_app (goodIn_of _ (by decide +kernel)) ggX13_corner_X13_isPolygon
theorem dX13_corner_0 : decode cX13_corner 0 = .ok (.aload_n 0, 1) := by decide +kernel
theorem dX13_corner_1 : decode cX13_corner 1 = .ok (.aload_n 0, 1) := by decide +kernel
theorem dX13_corner_2 : decode cX13_corner 2 = .ok (.iload_n 1, 1) := by decide +kernel
theorem dX13_corner_3 : decode cX13_corner 3 = .ok (.invokevirtual 158, 3) := by decide +kernel
theorem dX13_corner_6 : decode cX13_corner 6 = .ok (.ifCond .ne 7, 3) := by decide +kernel
theorem dX13_corner_9 : decode cX13_corner 9 = .ok (.iconst 1, 1) := by decide +kernel
theorem dX13_corner_10 : decode cX13_corner 10 = .ok (.goto 38, 3) := by decide +kernel
theorem dX13_corner_13 : decode cX13_corner 13 = .ok (.aload_n 0, 1) := by decide +kernel
theorem dX13_corner_14 : decode cX13_corner 14 = .ok (.getfield 20, 3) := by decide +kernel
theorem dX13_corner_17 : decode cX13_corner 17 = .ok (.iload_n 1, 1) := by decide +kernel
theorem dX13_corner_18 : decode cX13_corner 18 = .ok (.iaload, 1) := by decide +kernel
theorem dX13_corner_19 : decode cX13_corner 19 = .ok (.bipush 16, 2) := by decide +kernel
theorem dX13_corner_21 : decode cX13_corner 21 = .ok (.if_icmp .ne 7, 3) := by decide +kernel
theorem dX13_corner_24 : decode cX13_corner 24 = .ok (.iconst 2, 1) := by decide +kernel
theorem dX13_corner_25 : decode cX13_corner 25 = .ok (.goto 23, 3) := by decide +kernel
theorem dX13_corner_28 : decode cX13_corner 28 = .ok (.lload_n 2, 1) := by decide +kernel
theorem dX13_corner_29 : decode cX13_corner 29 = .ok (.invokestatic 161, 3) := by decide +kernel
theorem dX13_corner_32 : decode cX13_corner 32 = .ok (.ifCond .eq 15, 3) := by decide +kernel
theorem dX13_corner_35 : decode cX13_corner 35 = .ok (.lload 4, 2) := by decide +kernel
theorem dX13_corner_37 : decode cX13_corner 37 = .ok (.invokestatic 161, 3) := by decide +kernel
theorem dX13_corner_40 : decode cX13_corner 40 = .ok (.ifCond .eq 7, 3) := by decide +kernel
theorem dX13_corner_43 : decode cX13_corner 43 = .ok (.iconst 0, 1) := by decide +kernel
theorem dX13_corner_44 : decode cX13_corner 44 = .ok (.goto 4, 3) := by decide +kernel
theorem dX13_corner_47 : decode cX13_corner 47 = .ok (.iconst 3, 1) := by decide +kernel
theorem dX13_corner_48 : decode cX13_corner 48 = .ok (.putfield 141, 3) := by decide +kernel
theorem dX13_corner_51 : decode cX13_corner 51 = .ok (.aload_n 0, 1) := by decide +kernel
theorem dX13_corner_52 : decode cX13_corner 52 = .ok (.getfield 141, 3) := by decide +kernel
theorem dX13_corner_55 : decode cX13_corner 55 = .ok (.ifCond .le 5, 3) := by decide +kernel
theorem dX13_corner_58 : decode cX13_corner 58 = .ok (.iconst 0, 1) := by decide +kernel
theorem dX13_corner_59 : decode cX13_corner 59 = .ok (.ireturn, 1) := by decide +kernel
theorem dX13_corner_60 : decode cX13_corner 60 = .ok (.bipush 16, 2) := by decide +kernel
theorem dX13_corner_62 : decode cX13_corner 62 = .ok (.iload_n 1, 1) := by decide +kernel
theorem dX13_corner_63 : decode cX13_corner 63 = .ok (.imul, 1) := by decide +kernel
theorem dX13_corner_64 : decode cX13_corner 64 = .ok (.aload_n 0, 1) := by decide +kernel
theorem dX13_corner_65 : decode cX13_corner 65 = .ok (.getfield 20, 3) := by decide +kernel
theorem dX13_corner_68 : decode cX13_corner 68 = .ok (.iload_n 1, 1) := by decide +kernel
theorem dX13_corner_69 : decode cX13_corner 69 = .ok (.iaload, 1) := by decide +kernel
theorem dX13_corner_70 : decode cX13_corner 70 = .ok (.iadd, 1) := by decide +kernel
theorem dX13_corner_71 : decode cX13_corner 71 = .ok (.istore 6, 2) := by decide +kernel
theorem dX13_corner_73 : decode cX13_corner 73 = .ok (.aload_n 0, 1) := by decide +kernel
theorem dX13_corner_74 : decode cX13_corner 74 = .ok (.getfield 20, 3) := by decide +kernel
theorem dX13_corner_77 : decode cX13_corner 77 = .ok (.iload_n 1, 1) := by decide +kernel
theorem dX13_corner_78 : decode cX13_corner 78 = .ok (.iaload, 1) := by decide +kernel
theorem dX13_corner_79 : decode cX13_corner 79 = .ok (.ifCond .le 47, 3) := by decide +kernel
theorem dX13_corner_82 : decode cX13_corner 82 = .ok (.aload_n 0, 1) := by decide +kernel
theorem dX13_corner_83 : decode cX13_corner 83 = .ok (.getfield 23, 3) := by decide +kernel
theorem dX13_corner_86 : decode cX13_corner 86 = .ok (.iload 6, 2) := by decide +kernel
theorem dX13_corner_88 : decode cX13_corner 88 = .ok (.iconst 1, 1) := by decide +kernel
theorem dX13_corner_89 : decode cX13_corner 89 = .ok (.isub, 1) := by decide +kernel
theorem dX13_corner_90 : decode cX13_corner 90 = .ok (.laload, 1) := by decide +kernel
theorem dX13_corner_91 : decode cX13_corner 91 = .ok (.lload_n 2, 1) := by decide +kernel
theorem dX13_corner_92 : decode cX13_corner 92 = .ok (.lcmp, 1) := by decide +kernel
theorem dX13_corner_93 : decode cX13_corner 93 = .ok (.ifCond .ne 7, 3) := by decide +kernel
theorem dX13_corner_96 : decode cX13_corner 96 = .ok (.iconst 1, 1) := by decide +kernel
theorem dX13_corner_97 : decode cX13_corner 97 = .ok (.goto 4, 3) := by decide +kernel
theorem dX13_corner_100 : decode cX13_corner 100 = .ok (.iconst 0, 1) := by decide +kernel
theorem dX13_corner_101 : decode cX13_corner 101 = .ok (.aload_n 0, 1) := by decide +kernel
theorem dX13_corner_102 : decode cX13_corner 102 = .ok (.getfield 26, 3) := by decide +kernel
theorem dX13_corner_105 : decode cX13_corner 105 = .ok (.iload 6, 2) := by decide +kernel
theorem dX13_corner_107 : decode cX13_corner 107 = .ok (.iconst 1, 1) := by decide +kernel
theorem dX13_corner_108 : decode cX13_corner 108 = .ok (.isub, 1) := by decide +kernel
theorem dX13_corner_109 : decode cX13_corner 109 = .ok (.laload, 1) := by decide +kernel
theorem dX13_corner_110 : decode cX13_corner 110 = .ok (.lload 4, 2) := by decide +kernel
theorem dX13_corner_112 : decode cX13_corner 112 = .ok (.lcmp, 1) := by decide +kernel
theorem dX13_corner_113 : decode cX13_corner 113 = .ok (.ifCond .ne 7, 3) := by decide +kernel
theorem dX13_corner_116 : decode cX13_corner 116 = .ok (.iconst 1, 1) := by decide +kernel
theorem dX13_corner_117 : decode cX13_corner 117 = .ok (.goto 4, 3) := by decide +kernel
theorem dX13_corner_120 : decode cX13_corner 120 = .ok (.iconst 0, 1) := by decide +kernel
theorem dX13_corner_121 : decode cX13_corner 121 = .ok (.if_icmp .ne 5, 3) := by decide +kernel
theorem dX13_corner_124 : decode cX13_corner 124 = .ok (.iconst 0, 1) := by decide +kernel
theorem dX13_corner_125 : decode cX13_corner 125 = .ok (.ireturn, 1) := by decide +kernel
theorem dX13_corner_126 : decode cX13_corner 126 = .ok (.aload_n 0, 1) := by decide +kernel
theorem dX13_corner_127 : decode cX13_corner 127 = .ok (.getfield 23, 3) := by decide +kernel
theorem dX13_corner_130 : decode cX13_corner 130 = .ok (.iload 6, 2) := by decide +kernel
theorem dX13_corner_132 : decode cX13_corner 132 = .ok (.lload_n 2, 1) := by decide +kernel
theorem dX13_corner_133 : decode cX13_corner 133 = .ok (.lastore, 1) := by decide +kernel
theorem dX13_corner_134 : decode cX13_corner 134 = .ok (.aload_n 0, 1) := by decide +kernel
theorem dX13_corner_135 : decode cX13_corner 135 = .ok (.getfield 26, 3) := by decide +kernel
theorem dX13_corner_138 : decode cX13_corner 138 = .ok (.iload 6, 2) := by decide +kernel
theorem dX13_corner_140 : decode cX13_corner 140 = .ok (.lload 4, 2) := by decide +kernel
theorem dX13_corner_142 : decode cX13_corner 142 = .ok (.lastore, 1) := by decide +kernel
theorem dX13_corner_143 : decode cX13_corner 143 = .ok (.aload_n 0, 1) := by decide +kernel
theorem dX13_corner_144 : decode cX13_corner 144 = .ok (.getfield 20, 3) := by decide +kernel
theorem dX13_corner_147 : decode cX13_corner 147 = .ok (.iload_n 1, 1) := by decide +kernel
theorem dX13_corner_148 : decode cX13_corner 148 = .ok (.dup2, 1) := by decide +kernel
theorem dX13_corner_149 : decode cX13_corner 149 = .ok (.iaload, 1) := by decide +kernel
theorem dX13_corner_150 : decode cX13_corner 150 = .ok (.iconst 1, 1) := by decide +kernel
theorem dX13_corner_151 : decode cX13_corner 151 = .ok (.iadd, 1) := by decide +kernel
theorem dX13_corner_152 : decode cX13_corner 152 = .ok (.iastore, 1) := by decide +kernel
theorem dX13_corner_153 : decode cX13_corner 153 = .ok (.iconst 1, 1) := by decide +kernel
theorem dX13_corner_154 : decode cX13_corner 154 = .ok (.ireturn, 1) := by decide +kernel
set_option maxRecDepth 20000 in
theorem ggX13_voltage_X13_isPolygon : GoodIn wsX13_voltage wsX13_isPolygon := goodIn_r _ [9, 10, 11, 12, 13, 14, 15, 16, 17, 18, 19, 20, 21, 22, 23, 24, 25, 26, 27, 28, 29, 30, 31, 32, 33, 34, 35, 36, 37, 38, 39, 40, 41, 42, 43, 44, 45, 46, 47, 48, 49, 50, 51, 52, 53, 54, 55, 56, 57, 58, 59, 60, 61, 62, 63, 64, 65, 66, 67, 68, 69, 70, 71, 72, 73, 74, 75, 76, 77, 78, 79, 80, 81] (by decide +kernel) (by decide +kernel)
set_option maxRecDepth 20000 in
theorem gX13_voltage_X13_isPolygon : GoodIn wsX13_voltage (wsV RX13 158 RX13 yX13_isPolygon wsX13_isPolygon) := goodIn_app (goodIn_of _ (by decide +kernel)) ggX13_voltage_X13_isPolygon
theorem dX13_voltage_0 : decode cX13_voltage 0 = .ok (.aload_n 0, 1) := by decide +kernel
theorem dX13_voltage_1 : decode cX13_voltage 1 = .ok (.aload_n 0, 1) := by decide +kernel
theorem dX13_voltage_2 : decode cX13_voltage 2 = .ok (.iload_n 1, 1) := by decide +kernel
theorem dX13_voltage_3 : decode cX13_voltage 3 = .ok (.invokevirtual 158, 3) := by decide +kernel
theorem dX13_voltage_6 : decode cX13_voltage 6 = .ok (.ifCond .ne 7, 3) := by decide +kernel
theorem dX13_voltage_9 : decode cX13_voltage 9 = .ok (.iconst 1, 1) := by decide +kernel
theorem dX13_voltage_10 : decode cX13_voltage 10 = .ok (.goto 24, 3) := by decide +kernel
theorem dX13_voltage_13 : decode cX13_voltage 13 = .ok (.lload_n 2, 1) := by decide +kernel
theorem dX13_voltage_14 : decode cX13_voltage 14 = .ok (.ldc2_w 165, 3) := by decide +kernel
theorem dX13_voltage_17 : decode cX13_voltage 17 = .ok (.lcmp, 1) := by decide +kernel
theorem dX13_voltage_18 : decode cX13_voltage 18 = .ok (.ifCond .lt 11, 3) := by decide +kernel
theorem dX13_voltage_21 : decode cX13_voltage 21 = .ok (.lload_n 2, 1) := by decide +kernel
theorem dX13_voltage_22 : decode cX13_voltage 22 = .ok (.ldc2_w 167, 3) := by decide +kernel
theorem dX13_voltage_25 : decode cX13_voltage 25 = .ok (.lcmp, 1) := by decide +kernel
theorem dX13_voltage_26 : decode cX13_voltage 26 = .ok (.ifCond .le 7, 3) := by decide +kernel
theorem dX13_voltage_29 : decode cX13_voltage 29 = .ok (.iconst 2, 1) := by decide +kernel
theorem dX13_voltage_30 : decode cX13_voltage 30 = .ok (.goto 4, 3) := by decide +kernel
theorem dX13_voltage_33 : decode cX13_voltage 33 = .ok (.iconst 0, 1) := by decide +kernel
theorem dX13_voltage_34 : decode cX13_voltage 34 = .ok (.putfield 141, 3) := by decide +kernel
theorem dX13_voltage_37 : decode cX13_voltage 37 = .ok (.aload_n 0, 1) := by decide +kernel
theorem dX13_voltage_38 : decode cX13_voltage 38 = .ok (.getfield 141, 3) := by decide +kernel
theorem dX13_voltage_41 : decode cX13_voltage 41 = .ok (.ifCond .gt 14, 3) := by decide +kernel
theorem dX13_voltage_44 : decode cX13_voltage 44 = .ok (.aload_n 0, 1) := by decide +kernel
theorem dX13_voltage_45 : decode cX13_voltage 45 = .ok (.getfield 16, 3) := by decide +kernel
theorem dX13_voltage_48 : decode cX13_voltage 48 = .ok (.iload_n 1, 1) := by decide +kernel
theorem dX13_voltage_49 : decode cX13_voltage 49 = .ok (.laload, 1) := by decide +kernel
theorem dX13_voltage_50 : decode cX13_voltage 50 = .ok (.lload_n 2, 1) := by decide +kernel
theorem dX13_voltage_51 : decode cX13_voltage 51 = .ok (.lcmp, 1) := by decide +kernel
theorem dX13_voltage_52 : decode cX13_voltage 52 = .ok (.ifCond .ne 5, 3) := by decide +kernel
theorem dX13_voltage_55 : decode cX13_voltage 55 = .ok (.iconst 0, 1) := by decide +kernel
theorem dX13_voltage_56 : decode cX13_voltage 56 = .ok (.ireturn, 1) := by decide +kernel
theorem dX13_voltage_57 : decode cX13_voltage 57 = .ok (.aload_n 0, 1) := by decide +kernel
theorem dX13_voltage_58 : decode cX13_voltage 58 = .ok (.getfield 16, 3) := by decide +kernel
theorem dX13_voltage_61 : decode cX13_voltage 61 = .ok (.iload_n 1, 1) := by decide +kernel
theorem dX13_voltage_62 : decode cX13_voltage 62 = .ok (.lload_n 2, 1) := by decide +kernel
theorem dX13_voltage_63 : decode cX13_voltage 63 = .ok (.lastore, 1) := by decide +kernel
theorem dX13_voltage_64 : decode cX13_voltage 64 = .ok (.iconst 1, 1) := by decide +kernel
theorem dX13_voltage_65 : decode cX13_voltage 65 = .ok (.ireturn, 1) := by decide +kernel
set_option maxRecDepth 20000 in
theorem ggX13_place_X13_isCell : GoodIn wsX13_place wsX13_isCell := goodIn_r _ [13, 14, 24, 25, 26, 27, 28, 29, 30, 31, 32, 33, 34, 35, 36, 37, 38, 39, 40, 41, 42, 43, 44, 45, 46, 47, 48, 49, 50, 51, 52, 53, 54, 55, 56, 57, 58, 59, 60, 61, 62, 63, 64, 65, 66, 67, 68, 69, 70, 71, 72, 73, 74, 75, 76, 77, 78, 79, 80, 81, 82, 83, 84, 85, 86, 87, 88, 89, 90, 91, 92, 93, 94] (by decide +kernel) (by decide +kernel)
set_option maxRecDepth 20000 in
theorem gX13_place_X13_isCell : GoodIn wsX13_place (wsV RX13 151 RX13 yX13_isCell wsX13_isCell) := goodIn_app (goodIn_of _ (by decide +kernel)) ggX13_place_X13_isCell
theorem dX13_place_0 : decode cX13_place 0 = .ok (.aload_n 0, 1) := by decide +kernel
theorem dX13_place_1 : decode cX13_place 1 = .ok (.aload_n 0, 1) := by decide +kernel
theorem dX13_place_2 : decode cX13_place 2 = .ok (.iload_n 1, 1) := by decide +kernel
theorem dX13_place_3 : decode cX13_place 3 = .ok (.invokevirtual 151, 3) := by decide +kernel
theorem dX13_place_6 : decode cX13_place 6 = .ok (.ifCond .eq 11, 3) := by decide +kernel
theorem dX13_place_9 : decode cX13_place 9 = .ok (.aload_n 0, 1) := by decide +kernel
theorem dX13_place_10 : decode cX13_place 10 = .ok (.iload_n 2, 1) := by decide +kernel
theorem dX13_place_11 : decode cX13_place 11 = .ok (.invokevirtual 151, 3) := by decide +kernel
theorem dX13_place_14 : decode cX13_place 14 = .ok (.ifCond .ne 7, 3) := by decide +kernel
theorem dX13_place_17 : decode cX13_place 17 = .ok (.iconst 1, 1) := by decide +kernel
theorem dX13_place_18 : decode cX13_place 18 = .ok (.goto 48, 3) := by decide +kernel
theorem dX13_place_21 : decode cX13_place 21 = .ok (.aload_n 0, 1) := by decide +kernel
theorem dX13_place_22 : decode cX13_place 22 = .ok (.getfield 169, 3) := by decide +kernel
theorem dX13_place_25 : decode cX13_place 25 = .ok (.bipush 32, 2) := by decide +kernel
theorem dX13_place_27 : decode cX13_place 27 = .ok (.if_icmp .ne 7, 3) := by decide +kernel
theorem dX13_place_30 : decode cX13_place 30 = .ok (.iconst 2, 1) := by decide +kernel
theorem dX13_place_31 : decode cX13_place 31 = .ok (.goto 35, 3) := by decide +kernel
theorem dX13_place_34 : decode cX13_place 34 = .ok (.lload_n 3, 1) := by decide +kernel
theorem dX13_place_35 : decode cX13_place 35 = .ok (.invokestatic 161, 3) := by decide +kernel
theorem dX13_place_38 : decode cX13_place 38 = .ok (.ifCond .eq 23, 3) := by decide +kernel
theorem dX13_place_41 : decode cX13_place 41 = .ok (.lload 5, 2) := by decide +kernel
theorem dX13_place_43 : decode cX13_place 43 = .ok (.invokestatic 161, 3) := by decide +kernel
theorem dX13_place_46 : decode cX13_place 46 = .ok (.ifCond .eq 15, 3) := by decide +kernel
theorem dX13_place_49 : decode cX13_place 49 = .ok (.iload 7, 2) := by decide +kernel
theorem dX13_place_51 : decode cX13_place 51 = .ok (.ifCond .lt 10, 3) := by decide +kernel
theorem dX13_place_54 : decode cX13_place 54 = .ok (.iload 7, 2) := by decide +kernel
theorem dX13_place_56 : decode cX13_place 56 = .ok (.bipush 7, 2) := by decide +kernel
theorem dX13_place_58 : decode cX13_place 58 = .ok (.if_icmp .le 7, 3) := by decide +kernel
theorem dX13_place_61 : decode cX13_place 61 = .ok (.iconst 3, 1) := by decide +kernel
theorem dX13_place_62 : decode cX13_place 62 = .ok (.goto 4, 3) := by decide +kernel
theorem dX13_place_65 : decode cX13_place 65 = .ok (.iconst 0, 1) := by decide +kernel
theorem dX13_place_66 : decode cX13_place 66 = .ok (.putfield 141, 3) := by decide +kernel
theorem dX13_place_69 : decode cX13_place 69 = .ok (.aload_n 0, 1) := by decide +kernel
theorem dX13_place_70 : decode cX13_place 70 = .ok (.getfield 141, 3) := by decide +kernel
theorem dX13_place_73 : decode cX13_place 73 = .ok (.ifCond .le 5, 3) := by decide +kernel
theorem dX13_place_76 : decode cX13_place 76 = .ok (.iconst 0, 1) := by decide +kernel
theorem dX13_place_77 : decode cX13_place 77 = .ok (.ireturn, 1) := by decide +kernel
theorem dX13_place_78 : decode cX13_place 78 = .ok (.aload_n 0, 1) := by decide +kernel
theorem dX13_place_79 : decode cX13_place 79 = .ok (.iload_n 2, 1) := by decide +kernel
theorem dX13_place_80 : decode cX13_place 80 = .ok (.invokevirtual 172, 3) := by decide +kernel
theorem dX13_place_83 : decode cX13_place 83 = .ok (.aload_n 0, 1) := by decide +kernel
theorem dX13_place_84 : decode cX13_place 84 = .ok (.getfield 82, 3) := by decide +kernel
theorem dX13_place_87 : decode cX13_place 87 = .ok (.iload_n 1, 1) := by decide +kernel
theorem dX13_place_88 : decode cX13_place 88 = .ok (.baload, 1) := by decide +kernel
theorem dX13_place_89 : decode cX13_place 89 = .ok (.ifCond .eq 5, 3) := by decide +kernel
theorem dX13_place_92 : decode cX13_place 92 = .ok (.iconst (-1), 1) := by decide +kernel
theorem dX13_place_93 : decode cX13_place 93 = .ok (.ireturn, 1) := by decide +kernel
theorem dX13_place_94 : decode cX13_place 94 = .ok (.aload_n 0, 1) := by decide +kernel
theorem dX13_place_95 : decode cX13_place 95 = .ok (.getfield 29, 3) := by decide +kernel
theorem dX13_place_98 : decode cX13_place 98 = .ok (.aload_n 0, 1) := by decide +kernel
theorem dX13_place_99 : decode cX13_place 99 = .ok (.getfield 169, 3) := by decide +kernel
theorem dX13_place_102 : decode cX13_place 102 = .ok (.iload_n 1, 1) := by decide +kernel
theorem dX13_place_103 : decode cX13_place 103 = .ok (.iastore, 1) := by decide +kernel
theorem dX13_place_104 : decode cX13_place 104 = .ok (.aload_n 0, 1) := by decide +kernel
theorem dX13_place_105 : decode cX13_place 105 = .ok (.getfield 32, 3) := by decide +kernel
theorem dX13_place_108 : decode cX13_place 108 = .ok (.aload_n 0, 1) := by decide +kernel
theorem dX13_place_109 : decode cX13_place 109 = .ok (.getfield 169, 3) := by decide +kernel
theorem dX13_place_112 : decode cX13_place 112 = .ok (.iload_n 2, 1) := by decide +kernel
theorem dX13_place_113 : decode cX13_place 113 = .ok (.iastore, 1) := by decide +kernel
theorem dX13_place_114 : decode cX13_place 114 = .ok (.aload_n 0, 1) := by decide +kernel
theorem dX13_place_115 : decode cX13_place 115 = .ok (.getfield 35, 3) := by decide +kernel
theorem dX13_place_118 : decode cX13_place 118 = .ok (.aload_n 0, 1) := by decide +kernel
theorem dX13_place_119 : decode cX13_place 119 = .ok (.getfield 169, 3) := by decide +kernel
theorem dX13_place_122 : decode cX13_place 122 = .ok (.lload_n 3, 1) := by decide +kernel
theorem dX13_place_123 : decode cX13_place 123 = .ok (.lastore, 1) := by decide +kernel
theorem dX13_place_124 : decode cX13_place 124 = .ok (.aload_n 0, 1) := by decide +kernel
theorem dX13_place_125 : decode cX13_place 125 = .ok (.getfield 38, 3) := by decide +kernel
theorem dX13_place_128 : decode cX13_place 128 = .ok (.aload_n 0, 1) := by decide +kernel
theorem dX13_place_129 : decode cX13_place 129 = .ok (.getfield 169, 3) := by decide +kernel
theorem dX13_place_132 : decode cX13_place 132 = .ok (.lload 5, 2) := by decide +kernel
theorem dX13_place_134 : decode cX13_place 134 = .ok (.lastore, 1) := by decide +kernel
theorem dX13_place_135 : decode cX13_place 135 = .ok (.aload_n 0, 1) := by decide +kernel
theorem dX13_place_136 : decode cX13_place 136 = .ok (.getfield 41, 3) := by decide +kernel
theorem dX13_place_139 : decode cX13_place 139 = .ok (.aload_n 0, 1) := by decide +kernel
theorem dX13_place_140 : decode cX13_place 140 = .ok (.getfield 169, 3) := by decide +kernel
theorem dX13_place_143 : decode cX13_place 143 = .ok (.iload 7, 2) := by decide +kernel
theorem dX13_place_145 : decode cX13_place 145 = .ok (.iastore, 1) := by decide +kernel
theorem dX13_place_146 : decode cX13_place 146 = .ok (.aload_n 0, 1) := by decide +kernel
theorem dX13_place_147 : decode cX13_place 147 = .ok (.dup, 1) := by decide +kernel
theorem dX13_place_148 : decode cX13_place 148 = .ok (.getfield 169, 3) := by decide +kernel
theorem dX13_place_151 : decode cX13_place 151 = .ok (.iconst 1, 1) := by decide +kernel
theorem dX13_place_152 : decode cX13_place 152 = .ok (.iadd, 1) := by decide +kernel
theorem dX13_place_153 : decode cX13_place 153 = .ok (.putfield 169, 3) := by decide +kernel
theorem dX13_place_156 : decode cX13_place 156 = .ok (.aload_n 0, 1) := by decide +kernel
theorem dX13_place_157 : decode cX13_place 157 = .ok (.getfield 169, 3) := by decide +kernel
theorem dX13_place_160 : decode cX13_place 160 = .ok (.iconst 1, 1) := by decide +kernel
theorem dX13_place_161 : decode cX13_place 161 = .ok (.isub, 1) := by decide +kernel
theorem dX13_place_162 : decode cX13_place 162 = .ok (.ireturn, 1) := by decide +kernel
set_option maxRecDepth 20000 in
theorem ggX13_occurrences_X13_isCell : GoodIn wsX13_occurrences wsX13_isCell := goodIn_r _ [7, 8, 45, 46, 47, 48, 49, 50, 51, 52, 53, 54, 55, 56, 57, 58, 59, 60, 61, 62, 63, 64, 65, 66, 67, 68, 69, 70, 71, 72, 73, 74, 75, 76, 77, 78, 79, 80, 81, 82, 83, 84, 85, 86, 87, 88, 89, 90, 91, 92, 93, 94, 95, 96, 97, 98, 99, 100, 101, 102, 103, 104, 105, 106, 107, 108, 109, 110, 111, 112, 113, 114, 115] (by decide +kernel) (by decide +kernel)
set_option maxRecDepth 20000 in
theorem gX13_occurrences_X13_isCell : GoodIn wsX13_occurrences (wsV RX13 151 RX13 yX13_isCell wsX13_isCell) := goodIn_app (goodIn_of _ (by decide +kernel)) ggX13_occurrences_X13_isCell
theorem dX13_occurrences_0 : decode cX13_occurrences 0 = .ok (.aload_n 0, 1) := by decide +kernel
theorem dX13_occurrences_1 : decode cX13_occurrences 1 = .ok (.aload_n 0, 1) := by decide +kernel
theorem dX13_occurrences_2 : decode cX13_occurrences 2 = .ok (.iload_n 1, 1) := by decide +kernel
theorem dX13_occurrences_3 : decode cX13_occurrences 3 = .ok (.invokevirtual 151, 3) := by decide +kernel
theorem dX13_occurrences_6 : decode cX13_occurrences 6 = .ok (.ifCond .eq 7, 3) := by decide +kernel
theorem dX13_occurrences_9 : decode cX13_occurrences 9 = .ok (.iconst 0, 1) := by decide +kernel
theorem dX13_occurrences_10 : decode cX13_occurrences 10 = .ok (.goto 4, 3) := by decide +kernel
theorem dX13_occurrences_13 : decode cX13_occurrences 13 = .ok (.iconst 1, 1) := by decide +kernel
theorem dX13_occurrences_14 : decode cX13_occurrences 14 = .ok (.putfield 141, 3) := by decide +kernel
theorem dX13_occurrences_17 : decode cX13_occurrences 17 = .ok (.aload_n 0, 1) := by decide +kernel
theorem dX13_occurrences_18 : decode cX13_occurrences 18 = .ok (.getfield 141, 3) := by decide +kernel
theorem dX13_occurrences_21 : decode cX13_occurrences 21 = .ok (.ifCond .le 5, 3) := by decide +kernel
theorem dX13_occurrences_24 : decode cX13_occurrences 24 = .ok (.iconst 0, 1) := by decide +kernel
theorem dX13_occurrences_25 : decode cX13_occurrences 25 = .ok (.ireturn, 1) := by decide +kernel
theorem dX13_occurrences_26 : decode cX13_occurrences 26 = .ok (.aload_n 0, 1) := by decide +kernel
theorem dX13_occurrences_27 : decode cX13_occurrences 27 = .ok (.iload_n 1, 1) := by decide +kernel
theorem dX13_occurrences_28 : decode cX13_occurrences 28 = .ok (.invokevirtual 218, 3) := by decide +kernel
theorem dX13_occurrences_31 : decode cX13_occurrences 31 = .ok (.lstore_n 2, 1) := by decide +kernel
theorem dX13_occurrences_32 : decode cX13_occurrences 32 = .ok (.aload_n 0, 1) := by decide +kernel
theorem dX13_occurrences_33 : decode cX13_occurrences 33 = .ok (.lload_n 2, 1) := by decide +kernel
theorem dX13_occurrences_34 : decode cX13_occurrences 34 = .ok (.ldc2_w 221, 3) := by decide +kernel
theorem dX13_occurrences_37 : decode cX13_occurrences 37 = .ok (.lcmp, 1) := by decide +kernel
theorem dX13_occurrences_38 : decode cX13_occurrences 38 = .ok (.ifCond .le 7, 3) := by decide +kernel
theorem dX13_occurrences_41 : decode cX13_occurrences 41 = .ok (.iconst 2, 1) := by decide +kernel
theorem dX13_occurrences_42 : decode cX13_occurrences 42 = .ok (.goto 4, 3) := by decide +kernel
theorem dX13_occurrences_45 : decode cX13_occurrences 45 = .ok (.iconst 0, 1) := by decide +kernel
theorem dX13_occurrences_46 : decode cX13_occurrences 46 = .ok (.putfield 141, 3) := by decide +kernel
theorem dX13_occurrences_49 : decode cX13_occurrences 49 = .ok (.aload_n 0, 1) := by decide +kernel
theorem dX13_occurrences_50 : decode cX13_occurrences 50 = .ok (.getfield 141, 3) := by decide +kernel
theorem dX13_occurrences_53 : decode cX13_occurrences 53 = .ok (.ifCond .le 7, 3) := by decide +kernel
theorem dX13_occurrences_56 : decode cX13_occurrences 56 = .ok (.iconst 0, 1) := by decide +kernel
theorem dX13_occurrences_57 : decode cX13_occurrences 57 = .ok (.goto 5, 3) := by decide +kernel
theorem dX13_occurrences_60 : decode cX13_occurrences 60 = .ok (.lload_n 2, 1) := by decide +kernel
theorem dX13_occurrences_61 : decode cX13_occurrences 61 = .ok (.l2i, 1) := by decide +kernel
theorem dX13_occurrences_62 : decode cX13_occurrences 62 = .ok (.ireturn, 1) := by decide +kernel
theorem dX13_isRule_0 : decode cX13_isRule 0 = .ok (.iload_n 1, 1) := by decide +kernel
theorem dX13_isRule_1 : decode cX13_isRule 1 = .ok (.ifCond .lt 15, 3) := by decide +kernel
theorem dX13_isRule_4 : decode cX13_isRule 4 = .ok (.iload_n 1, 1) := by decide +kernel
theorem dX13_isRule_5 : decode cX13_isRule 5 = .ok (.aload_n 0, 1) := by decide +kernel
theorem dX13_isRule_6 : decode cX13_isRule 6 = .ok (.getfield 342, 3) := by decide +kernel
theorem dX13_isRule_9 : decode cX13_isRule 9 = .ok (.if_icmp .ge 7, 3) := by decide +kernel
theorem dX13_isRule_12 : decode cX13_isRule 12 = .ok (.iconst 1, 1) := by decide +kernel
theorem dX13_isRule_13 : decode cX13_isRule 13 = .ok (.goto 4, 3) := by decide +kernel
theorem dX13_isRule_16 : decode cX13_isRule 16 = .ok (.iconst 0, 1) := by decide +kernel
theorem dX13_isRule_17 : decode cX13_isRule 17 = .ok (.ireturn, 1) := by decide +kernel
set_option maxRecDepth 20000 in
theorem ggX13_run_X13_isRule : GoodIn wsX13_run wsX13_isRule := goodIn_r _ [12, 13, 211, 212, 213, 214, 215, 216, 217, 218, 219, 220, 221, 222, 223, 224, 225, 226, 227, 228, 229, 230, 231, 232, 233, 234, 235, 236, 237, 238, 239, 240, 241, 242, 243, 244, 245, 246, 247, 248, 249, 250, 251, 252, 253, 254, 255, 256, 257, 258, 259, 260, 261, 262, 263, 264, 265, 266, 267, 268, 269, 270, 271, 272, 273, 274, 275, 276, 277, 278, 279, 280, 281] (by decide +kernel) (by decide +kernel)
set_option maxRecDepth 20000 in
theorem gX13_run_X13_isRule : GoodIn wsX13_run (wsV RX13 345 RX13 yX13_isRule wsX13_isRule) := goodIn_app (goodIn_of _ (by decide +kernel)) ggX13_run_X13_isRule
set_option maxRecDepth 20000 in
theorem ggX13_run_X13_isCell : GoodIn wsX13_run wsX13_isCell := goodIn_r _ [17, 18, 211, 212, 213, 214, 215, 216, 217, 218, 219, 220, 221, 222, 223, 224, 225, 226, 227, 228, 229, 230, 231, 232, 233, 234, 235, 236, 237, 238, 239, 240, 241, 242, 243, 244, 245, 246, 247, 248, 249, 250, 251, 252, 253, 254, 255, 256, 257, 258, 259, 260, 261, 262, 263, 264, 265, 266, 267, 268, 269, 270, 271, 272, 273, 274, 275, 276, 277, 278, 279, 280, 281] (by decide +kernel) (by decide +kernel)
set_option maxRecDepth 20000 in
theorem gX13_run_X13_isCell : GoodIn wsX13_run (wsV RX13 151 RX13 yX13_isCell wsX13_isCell) := goodIn_app (goodIn_of _ (by decide +kernel)) ggX13_run_X13_isCell
theorem dX13_run_0 : decode cX13_run 0 = .ok (.aload_n 0, 1) := by decide +kernel
theorem dX13_run_1 : decode cX13_run 1 = .ok (.aload_n 0, 1) := by decide +kernel
theorem dX13_run_2 : decode cX13_run 2 = .ok (.iload_n 1, 1) := by decide +kernel
theorem dX13_run_3 : decode cX13_run 3 = .ok (.invokevirtual 345, 3) := by decide +kernel
theorem dX13_run_6 : decode cX13_run 6 = .ok (.ifCond .eq 11, 3) := by decide +kernel
theorem dX13_run_9 : decode cX13_run 9 = .ok (.aload_n 0, 1) := by decide +kernel
theorem dX13_run_10 : decode cX13_run 10 = .ok (.iload_n 2, 1) := by decide +kernel
theorem dX13_run_11 : decode cX13_run 11 = .ok (.invokevirtual 151, 3) := by decide +kernel
theorem dX13_run_14 : decode cX13_run 14 = .ok (.ifCond .ne 7, 3) := by decide +kernel
theorem dX13_run_17 : decode cX13_run 17 = .ok (.iconst 1, 1) := by decide +kernel
theorem dX13_run_18 : decode cX13_run 18 = .ok (.goto 4, 3) := by decide +kernel
theorem dX13_run_21 : decode cX13_run 21 = .ok (.iconst 0, 1) := by decide +kernel
theorem dX13_run_22 : decode cX13_run 22 = .ok (.putfield 141, 3) := by decide +kernel
theorem dX13_run_25 : decode cX13_run 25 = .ok (.aload_n 0, 1) := by decide +kernel
theorem dX13_run_26 : decode cX13_run 26 = .ok (.getfield 141, 3) := by decide +kernel
theorem dX13_run_29 : decode cX13_run 29 = .ok (.ifCond .ne 34, 3) := by decide +kernel
theorem dX13_run_32 : decode cX13_run 32 = .ok (.aload_n 0, 1) := by decide +kernel
theorem dX13_run_33 : decode cX13_run 33 = .ok (.aload_n 0, 1) := by decide +kernel
theorem dX13_run_34 : decode cX13_run 34 = .ok (.iload_n 2, 1) := by decide +kernel
theorem dX13_run_35 : decode cX13_run 35 = .ok (.invokevirtual 218, 3) := by decide +kernel
theorem dX13_run_38 : decode cX13_run 38 = .ok (.ldc2_w 221, 3) := by decide +kernel
theorem dX13_run_41 : decode cX13_run 41 = .ok (.lcmp, 1) := by decide +kernel
theorem dX13_run_42 : decode cX13_run 42 = .ok (.ifCond .gt 13, 3) := by decide +kernel
theorem dX13_run_45 : decode cX13_run 45 = .ok (.aload_n 0, 1) := by decide +kernel
theorem dX13_run_46 : decode cX13_run 46 = .ok (.iload_n 1, 1) := by decide +kernel
theorem dX13_run_47 : decode cX13_run 47 = .ok (.iload_n 2, 1) := by decide +kernel
theorem dX13_run_48 : decode cX13_run 48 = .ok (.iload_n 3, 1) := by decide +kernel
theorem dX13_run_49 : decode cX13_run 49 = .ok (.invokevirtual 348, 3) := by decide +kernel
theorem dX13_run_52 : decode cX13_run 52 = .ok (.ifCond .ne 7, 3) := by decide +kernel
theorem dX13_run_55 : decode cX13_run 55 = .ok (.iconst 2, 1) := by decide +kernel
theorem dX13_run_56 : decode cX13_run 56 = .ok (.goto 4, 3) := by decide +kernel
theorem dX13_run_59 : decode cX13_run 59 = .ok (.iconst 0, 1) := by decide +kernel
theorem dX13_run_60 : decode cX13_run 60 = .ok (.putfield 141, 3) := by decide +kernel
theorem dX13_run_63 : decode cX13_run 63 = .ok (.aload_n 0, 1) := by decide +kernel
theorem dX13_run_64 : decode cX13_run 64 = .ok (.getfield 141, 3) := by decide +kernel
theorem dX13_run_67 : decode cX13_run 67 = .ok (.ifCond .le 5, 3) := by decide +kernel
theorem dX13_run_70 : decode cX13_run 70 = .ok (.iconst 0, 1) := by decide +kernel
theorem dX13_run_71 : decode cX13_run 71 = .ok (.ireturn, 1) := by decide +kernel
theorem dX13_run_72 : decode cX13_run 72 = .ok (.aload_n 0, 1) := by decide +kernel
theorem dX13_run_73 : decode cX13_run 73 = .ok (.aload_n 0, 1) := by decide +kernel
theorem dX13_run_74 : decode cX13_run 74 = .ok (.invokevirtual 352, 3) := by decide +kernel
theorem dX13_run_77 : decode cX13_run 77 = .ok (.putfield 356, 3) := by decide +kernel
theorem dX13_run_80 : decode cX13_run 80 = .ok (.iconst 0, 1) := by decide +kernel
theorem dX13_run_81 : decode cX13_run 81 = .ok (.istore 4, 2) := by decide +kernel
theorem dX13_run_83 : decode cX13_run 83 = .ok (.iload 4, 2) := by decide +kernel
theorem dX13_run_85 : decode cX13_run 85 = .ok (.aload_n 0, 1) := by decide +kernel
theorem dX13_run_86 : decode cX13_run 86 = .ok (.getfield 356, 3) := by decide +kernel
theorem dX13_run_89 : decode cX13_run 89 = .ok (.if_icmp .ge 60, 3) := by decide +kernel
theorem dX13_run_92 : decode cX13_run 92 = .ok (.iconst 0, 1) := by decide +kernel
theorem dX13_run_93 : decode cX13_run 93 = .ok (.istore 5, 2) := by decide +kernel
theorem dX13_run_95 : decode cX13_run 95 = .ok (.iload 5, 2) := by decide +kernel
theorem dX13_run_97 : decode cX13_run 97 = .ok (.bipush 12, 2) := by decide +kernel
theorem dX13_run_99 : decode cX13_run 99 = .ok (.if_icmp .ge 44, 3) := by decide +kernel
theorem dX13_run_102 : decode cX13_run 102 = .ok (.aload_n 0, 1) := by decide +kernel
theorem dX13_run_103 : decode cX13_run 103 = .ok (.getfield 72, 3) := by decide +kernel
theorem dX13_run_106 : decode cX13_run 106 = .ok (.sipush 18024, 3) := by decide +kernel
theorem dX13_run_109 : decode cX13_run 109 = .ok (.bipush 12, 2) := by decide +kernel
theorem dX13_run_111 : decode cX13_run 111 = .ok (.iload 4, 2) := by decide +kernel
theorem dX13_run_113 : decode cX13_run 113 = .ok (.imul, 1) := by decide +kernel
theorem dX13_run_114 : decode cX13_run 114 = .ok (.iadd, 1) := by decide +kernel
theorem dX13_run_115 : decode cX13_run 115 = .ok (.iload 5, 2) := by decide +kernel
theorem dX13_run_117 : decode cX13_run 117 = .ok (.iadd, 1) := by decide +kernel
theorem dX13_run_118 : decode cX13_run 118 = .ok (.aload_n 0, 1) := by decide +kernel
theorem dX13_run_119 : decode cX13_run 119 = .ok (.getfield 72, 3) := by decide +kernel
theorem dX13_run_122 : decode cX13_run 122 = .ok (.bipush 12, 2) := by decide +kernel
theorem dX13_run_124 : decode cX13_run 124 = .ok (.aload_n 0, 1) := by decide +kernel
theorem dX13_run_125 : decode cX13_run 125 = .ok (.getfield 128, 3) := by decide +kernel
theorem dX13_run_128 : decode cX13_run 128 = .ok (.iload 4, 2) := by decide +kernel
theorem dX13_run_130 : decode cX13_run 130 = .ok (.iaload, 1) := by decide +kernel
theorem dX13_run_131 : decode cX13_run 131 = .ok (.imul, 1) := by decide +kernel
theorem dX13_run_132 : decode cX13_run 132 = .ok (.iload 5, 2) := by decide +kernel
theorem dX13_run_134 : decode cX13_run 134 = .ok (.iadd, 1) := by decide +kernel
theorem dX13_run_135 : decode cX13_run 135 = .ok (.laload, 1) := by decide +kernel
theorem dX13_run_136 : decode cX13_run 136 = .ok (.lastore, 1) := by decide +kernel
theorem dX13_run_137 : decode cX13_run 137 = .ok (.iinc 5 1, 3) := by decide +kernel
theorem dX13_run_140 : decode cX13_run 140 = .ok (.goto (-45), 3) := by decide +kernel
theorem dX13_run_143 : decode cX13_run 143 = .ok (.iinc 4 1, 3) := by decide +kernel
theorem dX13_run_146 : decode cX13_run 146 = .ok (.goto (-63), 3) := by decide +kernel
theorem dX13_run_149 : decode cX13_run 149 = .ok (.aload_n 0, 1) := by decide +kernel
theorem dX13_run_150 : decode cX13_run 150 = .ok (.iload_n 1, 1) := by decide +kernel
theorem dX13_run_151 : decode cX13_run 151 = .ok (.putfield 75, 3) := by decide +kernel
theorem dX13_run_154 : decode cX13_run 154 = .ok (.aload_n 0, 1) := by decide +kernel
theorem dX13_run_155 : decode cX13_run 155 = .ok (.iload_n 3, 1) := by decide +kernel
theorem dX13_run_156 : decode cX13_run 156 = .ok (.putfield 359, 3) := by decide +kernel
theorem dX13_run_159 : decode cX13_run 159 = .ok (.aload_n 0, 1) := by decide +kernel
theorem dX13_run_160 : decode cX13_run 160 = .ok (.getfield 356, 3) := by decide +kernel
theorem dX13_run_163 : decode cX13_run 163 = .ok (.ireturn, 1) := by decide +kernel
theorem dX13_violation_0 : decode cX13_violation 0 = .ok (.aload_n 0, 1) := by decide +kernel
theorem dX13_violation_1 : decode cX13_violation 1 = .ok (.iload_n 1, 1) := by decide +kernel
theorem dX13_violation_2 : decode cX13_violation 2 = .ok (.ifCond .lt 21, 3) := by decide +kernel
theorem dX13_violation_5 : decode cX13_violation 5 = .ok (.iload_n 1, 1) := by decide +kernel
theorem dX13_violation_6 : decode cX13_violation 6 = .ok (.aload_n 0, 1) := by decide +kernel
theorem dX13_violation_7 : decode cX13_violation 7 = .ok (.getfield 356, 3) := by decide +kernel
theorem dX13_violation_10 : decode cX13_violation 10 = .ok (.if_icmp .ge 13, 3) := by decide +kernel
theorem dX13_violation_13 : decode cX13_violation 13 = .ok (.iload_n 2, 1) := by decide +kernel
theorem dX13_violation_14 : decode cX13_violation 14 = .ok (.ifCond .lt 9, 3) := by decide +kernel
theorem dX13_violation_17 : decode cX13_violation 17 = .ok (.iload_n 2, 1) := by decide +kernel
theorem dX13_violation_18 : decode cX13_violation 18 = .ok (.bipush 6, 2) := by decide +kernel
theorem dX13_violation_20 : decode cX13_violation 20 = .ok (.if_icmp .le 7, 3) := by decide +kernel
theorem dX13_violation_23 : decode cX13_violation 23 = .ok (.iconst 1, 1) := by decide +kernel
theorem dX13_violation_24 : decode cX13_violation 24 = .ok (.goto 4, 3) := by decide +kernel
theorem dX13_violation_27 : decode cX13_violation 27 = .ok (.iconst 0, 1) := by decide +kernel
theorem dX13_violation_28 : decode cX13_violation 28 = .ok (.putfield 141, 3) := by decide +kernel
theorem dX13_violation_31 : decode cX13_violation 31 = .ok (.aload_n 0, 1) := by decide +kernel
theorem dX13_violation_32 : decode cX13_violation 32 = .ok (.getfield 141, 3) := by decide +kernel
theorem dX13_violation_35 : decode cX13_violation 35 = .ok (.ifCond .le 7, 3) := by decide +kernel
theorem dX13_violation_38 : decode cX13_violation 38 = .ok (.lconst 0, 1) := by decide +kernel
theorem dX13_violation_39 : decode cX13_violation 39 = .ok (.goto 18, 3) := by decide +kernel
theorem dX13_violation_42 : decode cX13_violation 42 = .ok (.aload_n 0, 1) := by decide +kernel
theorem dX13_violation_43 : decode cX13_violation 43 = .ok (.getfield 72, 3) := by decide +kernel
theorem dX13_violation_46 : decode cX13_violation 46 = .ok (.sipush 18024, 3) := by decide +kernel
theorem dX13_violation_49 : decode cX13_violation 49 = .ok (.bipush 12, 2) := by decide +kernel
theorem dX13_violation_51 : decode cX13_violation 51 = .ok (.iload_n 1, 1) := by decide +kernel
theorem dX13_violation_52 : decode cX13_violation 52 = .ok (.imul, 1) := by decide +kernel
theorem dX13_violation_53 : decode cX13_violation 53 = .ok (.iadd, 1) := by decide +kernel
theorem dX13_violation_54 : decode cX13_violation 54 = .ok (.iload_n 2, 1) := by decide +kernel
theorem dX13_violation_55 : decode cX13_violation 55 = .ok (.iadd, 1) := by decide +kernel
theorem dX13_violation_56 : decode cX13_violation 56 = .ok (.laload, 1) := by decide +kernel
theorem dX13_violation_57 : decode cX13_violation 57 = .ok (.lreturn, 1) := by decide +kernel
theorem dX13_cellOf_0 : decode cX13_cellOf 0 = .ok (.aload_n 0, 1) := by decide +kernel
theorem dX13_cellOf_1 : decode cX13_cellOf 1 = .ok (.iload_n 1, 1) := by decide +kernel
theorem dX13_cellOf_2 : decode cX13_cellOf 2 = .ok (.ifCond .lt 11, 3) := by decide +kernel
theorem dX13_cellOf_5 : decode cX13_cellOf 5 = .ok (.iload_n 1, 1) := by decide +kernel
theorem dX13_cellOf_6 : decode cX13_cellOf 6 = .ok (.aload_n 0, 1) := by decide +kernel
theorem dX13_cellOf_7 : decode cX13_cellOf 7 = .ok (.getfield 356, 3) := by decide +kernel
theorem dX13_cellOf_10 : decode cX13_cellOf 10 = .ok (.if_icmp .lt 7, 3) := by decide +kernel
theorem dX13_cellOf_13 : decode cX13_cellOf 13 = .ok (.iconst 1, 1) := by decide +kernel
theorem dX13_cellOf_14 : decode cX13_cellOf 14 = .ok (.goto 4, 3) := by decide +kernel
theorem dX13_cellOf_17 : decode cX13_cellOf 17 = .ok (.iconst 0, 1) := by decide +kernel
theorem dX13_cellOf_18 : decode cX13_cellOf 18 = .ok (.putfield 141, 3) := by decide +kernel
theorem dX13_cellOf_21 : decode cX13_cellOf 21 = .ok (.aload_n 0, 1) := by decide +kernel
theorem dX13_cellOf_22 : decode cX13_cellOf 22 = .ok (.getfield 141, 3) := by decide +kernel
theorem dX13_cellOf_25 : decode cX13_cellOf 25 = .ok (.ifCond .le 7, 3) := by decide +kernel
theorem dX13_cellOf_28 : decode cX13_cellOf 28 = .ok (.iconst 0, 1) := by decide +kernel
theorem dX13_cellOf_29 : decode cX13_cellOf 29 = .ok (.goto 20, 3) := by decide +kernel
theorem dX13_cellOf_32 : decode cX13_cellOf 32 = .ok (.aload_n 0, 1) := by decide +kernel
theorem dX13_cellOf_33 : decode cX13_cellOf 33 = .ok (.getfield 72, 3) := by decide +kernel
theorem dX13_cellOf_36 : decode cX13_cellOf 36 = .ok (.sipush 18024, 3) := by decide +kernel
theorem dX13_cellOf_39 : decode cX13_cellOf 39 = .ok (.bipush 12, 2) := by decide +kernel
theorem dX13_cellOf_41 : decode cX13_cellOf 41 = .ok (.iload_n 1, 1) := by decide +kernel
theorem dX13_cellOf_42 : decode cX13_cellOf 42 = .ok (.imul, 1) := by decide +kernel
theorem dX13_cellOf_43 : decode cX13_cellOf 43 = .ok (.iadd, 1) := by decide +kernel
theorem dX13_cellOf_44 : decode cX13_cellOf 44 = .ok (.bipush 7, 2) := by decide +kernel
theorem dX13_cellOf_46 : decode cX13_cellOf 46 = .ok (.iadd, 1) := by decide +kernel
theorem dX13_cellOf_47 : decode cX13_cellOf 47 = .ok (.laload, 1) := by decide +kernel
theorem dX13_cellOf_48 : decode cX13_cellOf 48 = .ok (.l2i, 1) := by decide +kernel
theorem dX13_cellOf_49 : decode cX13_cellOf 49 = .ok (.ireturn, 1) := by decide +kernel
theorem dX13_waive_0 : decode cX13_waive 0 = .ok (.aload_n 0, 1) := by decide +kernel
theorem dX13_waive_1 : decode cX13_waive 1 = .ok (.iload_n 1, 1) := by decide +kernel
theorem dX13_waive_2 : decode cX13_waive 2 = .ok (.ifCond .lt 11, 3) := by decide +kernel
theorem dX13_waive_5 : decode cX13_waive 5 = .ok (.iload_n 1, 1) := by decide +kernel
theorem dX13_waive_6 : decode cX13_waive 6 = .ok (.aload_n 0, 1) := by decide +kernel
theorem dX13_waive_7 : decode cX13_waive 7 = .ok (.getfield 356, 3) := by decide +kernel
theorem dX13_waive_10 : decode cX13_waive 10 = .ok (.if_icmp .lt 7, 3) := by decide +kernel
theorem dX13_waive_13 : decode cX13_waive 13 = .ok (.iconst 1, 1) := by decide +kernel
theorem dX13_waive_14 : decode cX13_waive 14 = .ok (.goto 4, 3) := by decide +kernel
theorem dX13_waive_17 : decode cX13_waive 17 = .ok (.iconst 0, 1) := by decide +kernel
theorem dX13_waive_18 : decode cX13_waive 18 = .ok (.putfield 141, 3) := by decide +kernel
theorem dX13_waive_21 : decode cX13_waive 21 = .ok (.aload_n 0, 1) := by decide +kernel
theorem dX13_waive_22 : decode cX13_waive 22 = .ok (.getfield 141, 3) := by decide +kernel
theorem dX13_waive_25 : decode cX13_waive 25 = .ok (.ifCond .le 5, 3) := by decide +kernel
theorem dX13_waive_28 : decode cX13_waive 28 = .ok (.iconst 0, 1) := by decide +kernel
theorem dX13_waive_29 : decode cX13_waive 29 = .ok (.ireturn, 1) := by decide +kernel
theorem dX13_waive_30 : decode cX13_waive 30 = .ok (.aload_n 0, 1) := by decide +kernel
theorem dX13_waive_31 : decode cX13_waive 31 = .ok (.getfield 254, 3) := by decide +kernel
theorem dX13_waive_34 : decode cX13_waive 34 = .ok (.istore_n 2, 1) := by decide +kernel
theorem dX13_waive_35 : decode cX13_waive 35 = .ok (.aload_n 0, 1) := by decide +kernel
theorem dX13_waive_36 : decode cX13_waive 36 = .ok (.aload_n 0, 1) := by decide +kernel
theorem dX13_waive_37 : decode cX13_waive 37 = .ok (.getfield 75, 3) := by decide +kernel
theorem dX13_waive_40 : decode cX13_waive 40 = .ok (.putfield 254, 3) := by decide +kernel
theorem dX13_waive_43 : decode cX13_waive 43 = .ok (.aload_n 0, 1) := by decide +kernel
theorem dX13_waive_44 : decode cX13_waive 44 = .ok (.sipush 18024, 3) := by decide +kernel
theorem dX13_waive_47 : decode cX13_waive 47 = .ok (.bipush 12, 2) := by decide +kernel
theorem dX13_waive_49 : decode cX13_waive 49 = .ok (.iload_n 1, 1) := by decide +kernel
theorem dX13_waive_50 : decode cX13_waive 50 = .ok (.imul, 1) := by decide +kernel
theorem dX13_waive_51 : decode cX13_waive 51 = .ok (.iadd, 1) := by decide +kernel
theorem dX13_waive_52 : decode cX13_waive 52 = .ok (.invokevirtual 327, 3) := by decide +kernel
theorem dX13_waive_55 : decode cX13_waive 55 = .ok (.istore_n 3, 1) := by decide +kernel
theorem dX13_waive_56 : decode cX13_waive 56 = .ok (.aload_n 0, 1) := by decide +kernel
theorem dX13_waive_57 : decode cX13_waive 57 = .ok (.iload_n 2, 1) := by decide +kernel
theorem dX13_waive_58 : decode cX13_waive 58 = .ok (.putfield 254, 3) := by decide +kernel
theorem dX13_waive_61 : decode cX13_waive 61 = .ok (.aload_n 0, 1) := by decide +kernel
theorem dX13_waive_62 : decode cX13_waive 62 = .ok (.iload_n 3, 1) := by decide +kernel
theorem dX13_waive_63 : decode cX13_waive 63 = .ok (.ifCond .ne 16, 3) := by decide +kernel
theorem dX13_waive_66 : decode cX13_waive 66 = .ok (.aload_n 0, 1) := by decide +kernel
theorem dX13_waive_67 : decode cX13_waive 67 = .ok (.getfield 251, 3) := by decide +kernel
theorem dX13_waive_70 : decode cX13_waive 70 = .ok (.bipush 40, 2) := by decide +kernel
theorem dX13_waive_72 : decode cX13_waive 72 = .ok (.if_icmp .ne 7, 3) := by decide +kernel
theorem dX13_waive_75 : decode cX13_waive 75 = .ok (.iconst 2, 1) := by decide +kernel
theorem dX13_waive_76 : decode cX13_waive 76 = .ok (.goto 4, 3) := by decide +kernel
theorem dX13_waive_79 : decode cX13_waive 79 = .ok (.iconst 0, 1) := by decide +kernel
theorem dX13_waive_80 : decode cX13_waive 80 = .ok (.putfield 141, 3) := by decide +kernel
theorem dX13_waive_83 : decode cX13_waive 83 = .ok (.aload_n 0, 1) := by decide +kernel
theorem dX13_waive_84 : decode cX13_waive 84 = .ok (.getfield 141, 3) := by decide +kernel
theorem dX13_waive_87 : decode cX13_waive 87 = .ok (.ifCond .gt 7, 3) := by decide +kernel
theorem dX13_waive_90 : decode cX13_waive 90 = .ok (.iload_n 3, 1) := by decide +kernel
theorem dX13_waive_91 : decode cX13_waive 91 = .ok (.ifCond .eq 5, 3) := by decide +kernel
theorem dX13_waive_94 : decode cX13_waive 94 = .ok (.iconst 0, 1) := by decide +kernel
theorem dX13_waive_95 : decode cX13_waive 95 = .ok (.ireturn, 1) := by decide +kernel
theorem dX13_waive_96 : decode cX13_waive 96 = .ok (.sipush 18024, 3) := by decide +kernel
theorem dX13_waive_99 : decode cX13_waive 99 = .ok (.bipush 12, 2) := by decide +kernel
theorem dX13_waive_101 : decode cX13_waive 101 = .ok (.iload_n 1, 1) := by decide +kernel
theorem dX13_waive_102 : decode cX13_waive 102 = .ok (.imul, 1) := by decide +kernel
theorem dX13_waive_103 : decode cX13_waive 103 = .ok (.iadd, 1) := by decide +kernel
theorem dX13_waive_104 : decode cX13_waive 104 = .ok (.istore 4, 2) := by decide +kernel
theorem dX13_waive_106 : decode cX13_waive 106 = .ok (.aload_n 0, 1) := by decide +kernel
theorem dX13_waive_107 : decode cX13_waive 107 = .ok (.getfield 79, 3) := by decide +kernel
theorem dX13_waive_110 : decode cX13_waive 110 = .ok (.bipush 8, 2) := by decide +kernel
theorem dX13_waive_112 : decode cX13_waive 112 = .ok (.aload_n 0, 1) := by decide +kernel
theorem dX13_waive_113 : decode cX13_waive 113 = .ok (.getfield 251, 3) := by decide +kernel
theorem dX13_waive_116 : decode cX13_waive 116 = .ok (.imul, 1) := by decide +kernel
theorem dX13_waive_117 : decode cX13_waive 117 = .ok (.aload_n 0, 1) := by decide +kernel
theorem dX13_waive_118 : decode cX13_waive 118 = .ok (.getfield 75, 3) := by decide +kernel
theorem dX13_waive_121 : decode cX13_waive 121 = .ok (.i2l, 1) := by decide +kernel
theorem dX13_waive_122 : decode cX13_waive 122 = .ok (.lastore, 1) := by decide +kernel
theorem dX13_waive_123 : decode cX13_waive 123 = .ok (.aload_n 0, 1) := by decide +kernel
theorem dX13_waive_124 : decode cX13_waive 124 = .ok (.getfield 79, 3) := by decide +kernel
theorem dX13_waive_127 : decode cX13_waive 127 = .ok (.bipush 8, 2) := by decide +kernel
theorem dX13_waive_129 : decode cX13_waive 129 = .ok (.aload_n 0, 1) := by decide +kernel
theorem dX13_waive_130 : decode cX13_waive 130 = .ok (.getfield 251, 3) := by decide +kernel
theorem dX13_waive_133 : decode cX13_waive 133 = .ok (.imul, 1) := by decide +kernel
theorem dX13_waive_134 : decode cX13_waive 134 = .ok (.iconst 1, 1) := by decide +kernel
theorem dX13_waive_135 : decode cX13_waive 135 = .ok (.iadd, 1) := by decide +kernel
theorem dX13_waive_136 : decode cX13_waive 136 = .ok (.aload_n 0, 1) := by decide +kernel
theorem dX13_waive_137 : decode cX13_waive 137 = .ok (.getfield 72, 3) := by decide +kernel
theorem dX13_waive_140 : decode cX13_waive 140 = .ok (.iload 4, 2) := by decide +kernel
theorem dX13_waive_142 : decode cX13_waive 142 = .ok (.bipush 7, 2) := by decide +kernel
theorem dX13_waive_144 : decode cX13_waive 144 = .ok (.iadd, 1) := by decide +kernel
theorem dX13_waive_145 : decode cX13_waive 145 = .ok (.laload, 1) := by decide +kernel
theorem dX13_waive_146 : decode cX13_waive 146 = .ok (.lastore, 1) := by decide +kernel
theorem dX13_waive_147 : decode cX13_waive 147 = .ok (.iconst 0, 1) := by decide +kernel
theorem dX13_waive_148 : decode cX13_waive 148 = .ok (.istore 5, 2) := by decide +kernel
theorem dX13_waive_150 : decode cX13_waive 150 = .ok (.iload 5, 2) := by decide +kernel
theorem dX13_waive_152 : decode cX13_waive 152 = .ok (.iconst 4, 1) := by decide +kernel
theorem dX13_waive_153 : decode cX13_waive 153 = .ok (.if_icmp .ge 39, 3) := by decide +kernel
theorem dX13_waive_156 : decode cX13_waive 156 = .ok (.aload_n 0, 1) := by decide +kernel
theorem dX13_waive_157 : decode cX13_waive 157 = .ok (.getfield 79, 3) := by decide +kernel
theorem dX13_waive_160 : decode cX13_waive 160 = .ok (.bipush 8, 2) := by decide +kernel
theorem dX13_waive_162 : decode cX13_waive 162 = .ok (.aload_n 0, 1) := by decide +kernel
theorem dX13_waive_163 : decode cX13_waive 163 = .ok (.getfield 251, 3) := by decide +kernel
theorem dX13_waive_166 : decode cX13_waive 166 = .ok (.imul, 1) := by decide +kernel
theorem dX13_waive_167 : decode cX13_waive 167 = .ok (.iconst 2, 1) := by decide +kernel
theorem dX13_waive_168 : decode cX13_waive 168 = .ok (.iadd, 1) := by decide +kernel
theorem dX13_waive_169 : decode cX13_waive 169 = .ok (.iload 5, 2) := by decide +kernel
theorem dX13_waive_171 : decode cX13_waive 171 = .ok (.iadd, 1) := by decide +kernel
theorem dX13_waive_172 : decode cX13_waive 172 = .ok (.aload_n 0, 1) := by decide +kernel
theorem dX13_waive_173 : decode cX13_waive 173 = .ok (.getfield 72, 3) := by decide +kernel
theorem dX13_waive_176 : decode cX13_waive 176 = .ok (.iload 4, 2) := by decide +kernel
theorem dX13_waive_178 : decode cX13_waive 178 = .ok (.bipush 8, 2) := by decide +kernel
theorem dX13_waive_180 : decode cX13_waive 180 = .ok (.iadd, 1) := by decide +kernel
theorem dX13_waive_181 : decode cX13_waive 181 = .ok (.iload 5, 2) := by decide +kernel
theorem dX13_waive_183 : decode cX13_waive 183 = .ok (.iadd, 1) := by decide +kernel
theorem dX13_waive_184 : decode cX13_waive 184 = .ok (.laload, 1) := by decide +kernel
theorem dX13_waive_185 : decode cX13_waive 185 = .ok (.lastore, 1) := by decide +kernel
theorem dX13_waive_186 : decode cX13_waive 186 = .ok (.iinc 5 1, 3) := by decide +kernel
theorem dX13_waive_189 : decode cX13_waive 189 = .ok (.goto (-39), 3) := by decide +kernel
theorem dX13_waive_192 : decode cX13_waive 192 = .ok (.aload_n 0, 1) := by decide +kernel
theorem dX13_waive_193 : decode cX13_waive 193 = .ok (.getfield 79, 3) := by decide +kernel
theorem dX13_waive_196 : decode cX13_waive 196 = .ok (.bipush 8, 2) := by decide +kernel
theorem dX13_waive_198 : decode cX13_waive 198 = .ok (.aload_n 0, 1) := by decide +kernel
theorem dX13_waive_199 : decode cX13_waive 199 = .ok (.getfield 251, 3) := by decide +kernel
theorem dX13_waive_202 : decode cX13_waive 202 = .ok (.imul, 1) := by decide +kernel
theorem dX13_waive_203 : decode cX13_waive 203 = .ok (.bipush 6, 2) := by decide +kernel
theorem dX13_waive_205 : decode cX13_waive 205 = .ok (.iadd, 1) := by decide +kernel
theorem dX13_waive_206 : decode cX13_waive 206 = .ok (.aload_n 0, 1) := by decide +kernel
theorem dX13_waive_207 : decode cX13_waive 207 = .ok (.getfield 72, 3) := by decide +kernel
theorem dX13_waive_210 : decode cX13_waive 210 = .ok (.iload 4, 2) := by decide +kernel
theorem dX13_waive_212 : decode cX13_waive 212 = .ok (.iconst 4, 1) := by decide +kernel
theorem dX13_waive_213 : decode cX13_waive 213 = .ok (.iadd, 1) := by decide +kernel
theorem dX13_waive_214 : decode cX13_waive 214 = .ok (.laload, 1) := by decide +kernel
theorem dX13_waive_215 : decode cX13_waive 215 = .ok (.lastore, 1) := by decide +kernel
theorem dX13_waive_216 : decode cX13_waive 216 = .ok (.aload_n 0, 1) := by decide +kernel
theorem dX13_waive_217 : decode cX13_waive 217 = .ok (.getfield 79, 3) := by decide +kernel
theorem dX13_waive_220 : decode cX13_waive 220 = .ok (.bipush 8, 2) := by decide +kernel
theorem dX13_waive_222 : decode cX13_waive 222 = .ok (.aload_n 0, 1) := by decide +kernel
theorem dX13_waive_223 : decode cX13_waive 223 = .ok (.getfield 251, 3) := by decide +kernel
theorem dX13_waive_226 : decode cX13_waive 226 = .ok (.imul, 1) := by decide +kernel
theorem dX13_waive_227 : decode cX13_waive 227 = .ok (.bipush 7, 2) := by decide +kernel
theorem dX13_waive_229 : decode cX13_waive 229 = .ok (.iadd, 1) := by decide +kernel
theorem dX13_waive_230 : decode cX13_waive 230 = .ok (.aload_n 0, 1) := by decide +kernel
theorem dX13_waive_231 : decode cX13_waive 231 = .ok (.getfield 72, 3) := by decide +kernel
theorem dX13_waive_234 : decode cX13_waive 234 = .ok (.iload 4, 2) := by decide +kernel
theorem dX13_waive_236 : decode cX13_waive 236 = .ok (.iconst 5, 1) := by decide +kernel
theorem dX13_waive_237 : decode cX13_waive 237 = .ok (.iadd, 1) := by decide +kernel
theorem dX13_waive_238 : decode cX13_waive 238 = .ok (.laload, 1) := by decide +kernel
theorem dX13_waive_239 : decode cX13_waive 239 = .ok (.lastore, 1) := by decide +kernel
theorem dX13_waive_240 : decode cX13_waive 240 = .ok (.aload_n 0, 1) := by decide +kernel
theorem dX13_waive_241 : decode cX13_waive 241 = .ok (.dup, 1) := by decide +kernel
theorem dX13_waive_242 : decode cX13_waive 242 = .ok (.getfield 251, 3) := by decide +kernel
theorem dX13_waive_245 : decode cX13_waive 245 = .ok (.iconst 1, 1) := by decide +kernel
theorem dX13_waive_246 : decode cX13_waive 246 = .ok (.iadd, 1) := by decide +kernel
theorem dX13_waive_247 : decode cX13_waive 247 = .ok (.putfield 251, 3) := by decide +kernel
theorem dX13_waive_250 : decode cX13_waive 250 = .ok (.iconst 1, 1) := by decide +kernel
theorem dX13_waive_251 : decode cX13_waive 251 = .ok (.ireturn, 1) := by decide +kernel
theorem dX13_changed_0 : decode cX13_changed 0 = .ok (.aload_n 0, 1) := by decide +kernel
theorem dX13_changed_1 : decode cX13_changed 1 = .ok (.aload_n 0, 1) := by decide +kernel
theorem dX13_changed_2 : decode cX13_changed 2 = .ok (.getfield 75, 3) := by decide +kernel
theorem dX13_changed_5 : decode cX13_changed 5 = .ok (.iconst (-1), 1) := by decide +kernel
theorem dX13_changed_6 : decode cX13_changed 6 = .ok (.if_icmp .eq 10, 3) := by decide +kernel
theorem dX13_changed_9 : decode cX13_changed 9 = .ok (.aload_n 0, 1) := by decide +kernel
theorem dX13_changed_10 : decode cX13_changed 10 = .ok (.getfield 359, 3) := by decide +kernel
theorem dX13_changed_13 : decode cX13_changed 13 = .ok (.ifCond .ne 7, 3) := by decide +kernel
theorem dX13_changed_16 : decode cX13_changed 16 = .ok (.iconst 1, 1) := by decide +kernel
theorem dX13_changed_17 : decode cX13_changed 17 = .ok (.goto 22, 3) := by decide +kernel
theorem dX13_changed_20 : decode cX13_changed 20 = .ok (.lload_n 1, 1) := by decide +kernel
theorem dX13_changed_21 : decode cX13_changed 21 = .ok (.lload 5, 2) := by decide +kernel
theorem dX13_changed_23 : decode cX13_changed 23 = .ok (.lcmp, 1) := by decide +kernel
theorem dX13_changed_24 : decode cX13_changed 24 = .ok (.ifCond .gt 10, 3) := by decide +kernel
theorem dX13_changed_27 : decode cX13_changed 27 = .ok (.lload_n 3, 1) := by decide +kernel
theorem dX13_changed_28 : decode cX13_changed 28 = .ok (.lload 7, 2) := by decide +kernel
theorem dX13_changed_30 : decode cX13_changed 30 = .ok (.lcmp, 1) := by decide +kernel
theorem dX13_changed_31 : decode cX13_changed 31 = .ok (.ifCond .le 7, 3) := by decide +kernel
theorem dX13_changed_34 : decode cX13_changed 34 = .ok (.iconst 2, 1) := by decide +kernel
theorem dX13_changed_35 : decode cX13_changed 35 = .ok (.goto 4, 3) := by decide +kernel
theorem dX13_changed_38 : decode cX13_changed 38 = .ok (.iconst 0, 1) := by decide +kernel
theorem dX13_changed_39 : decode cX13_changed 39 = .ok (.putfield 141, 3) := by decide +kernel
theorem dX13_changed_42 : decode cX13_changed 42 = .ok (.iconst 0, 1) := by decide +kernel
theorem dX13_changed_43 : decode cX13_changed 43 = .ok (.istore 9, 2) := by decide +kernel
theorem dX13_changed_45 : decode cX13_changed 45 = .ok (.iconst 0, 1) := by decide +kernel
theorem dX13_changed_46 : decode cX13_changed 46 = .ok (.istore 10, 2) := by decide +kernel
theorem dX13_changed_48 : decode cX13_changed 48 = .ok (.iload 10, 2) := by decide +kernel
theorem dX13_changed_50 : decode cX13_changed 50 = .ok (.aload_n 0, 1) := by decide +kernel
theorem dX13_changed_51 : decode cX13_changed 51 = .ok (.getfield 356, 3) := by decide +kernel
theorem dX13_changed_54 : decode cX13_changed 54 = .ok (.if_icmp .ge 93, 3) := by decide +kernel
theorem dX13_changed_57 : decode cX13_changed 57 = .ok (.aload_n 0, 1) := by decide +kernel
theorem dX13_changed_58 : decode cX13_changed 58 = .ok (.getfield 141, 3) := by decide +kernel
theorem dX13_changed_61 : decode cX13_changed 61 = .ok (.ifCond .ne 86, 3) := by decide +kernel
theorem dX13_changed_64 : decode cX13_changed 64 = .ok (.sipush 18024, 3) := by decide +kernel
theorem dX13_changed_67 : decode cX13_changed 67 = .ok (.bipush 12, 2) := by decide +kernel
theorem dX13_changed_69 : decode cX13_changed 69 = .ok (.iload 10, 2) := by decide +kernel
theorem dX13_changed_71 : decode cX13_changed 71 = .ok (.imul, 1) := by decide +kernel
theorem dX13_changed_72 : decode cX13_changed 72 = .ok (.iadd, 1) := by decide +kernel
theorem dX13_changed_73 : decode cX13_changed 73 = .ok (.istore 11, 2) := by decide +kernel
theorem dX13_changed_75 : decode cX13_changed 75 = .ok (.iload 9, 2) := by decide +kernel
theorem dX13_changed_77 : decode cX13_changed 77 = .ok (.aload_n 0, 1) := by decide +kernel
theorem dX13_changed_78 : decode cX13_changed 78 = .ok (.getfield 72, 3) := by decide +kernel
theorem dX13_changed_81 : decode cX13_changed 81 = .ok (.iload 11, 2) := by decide +kernel
theorem dX13_changed_83 : decode cX13_changed 83 = .ok (.laload, 1) := by decide +kernel
theorem dX13_changed_84 : decode cX13_changed 84 = .ok (.lload 5, 2) := by decide +kernel
theorem dX13_changed_86 : decode cX13_changed 86 = .ok (.lcmp, 1) := by decide +kernel
theorem dX13_changed_87 : decode cX13_changed 87 = .ok (.ifCond .gt 50, 3) := by decide +kernel
theorem dX13_changed_90 : decode cX13_changed 90 = .ok (.aload_n 0, 1) := by decide +kernel
theorem dX13_changed_91 : decode cX13_changed 91 = .ok (.getfield 72, 3) := by decide +kernel
theorem dX13_changed_94 : decode cX13_changed 94 = .ok (.iload 11, 2) := by decide +kernel
theorem dX13_changed_96 : decode cX13_changed 96 = .ok (.iconst 2, 1) := by decide +kernel
theorem dX13_changed_97 : decode cX13_changed 97 = .ok (.iadd, 1) := by decide +kernel
theorem dX13_changed_98 : decode cX13_changed 98 = .ok (.laload, 1) := by decide +kernel
theorem dX13_changed_99 : decode cX13_changed 99 = .ok (.lload_n 1, 1) := by decide +kernel
theorem dX13_changed_100 : decode cX13_changed 100 = .ok (.lcmp, 1) := by decide +kernel
theorem dX13_changed_101 : decode cX13_changed 101 = .ok (.ifCond .lt 36, 3) := by decide +kernel
theorem dX13_changed_104 : decode cX13_changed 104 = .ok (.aload_n 0, 1) := by decide +kernel
theorem dX13_changed_105 : decode cX13_changed 105 = .ok (.getfield 72, 3) := by decide +kernel
theorem dX13_changed_108 : decode cX13_changed 108 = .ok (.iload 11, 2) := by decide +kernel
theorem dX13_changed_110 : decode cX13_changed 110 = .ok (.iconst 1, 1) := by decide +kernel
theorem dX13_changed_111 : decode cX13_changed 111 = .ok (.iadd, 1) := by decide +kernel
theorem dX13_changed_112 : decode cX13_changed 112 = .ok (.laload, 1) := by decide +kernel
theorem dX13_changed_113 : decode cX13_changed 113 = .ok (.lload 7, 2) := by decide +kernel
theorem dX13_changed_115 : decode cX13_changed 115 = .ok (.lcmp, 1) := by decide +kernel
theorem dX13_changed_116 : decode cX13_changed 116 = .ok (.ifCond .gt 21, 3) := by decide +kernel
theorem dX13_changed_119 : decode cX13_changed 119 = .ok (.aload_n 0, 1) := by decide +kernel
theorem dX13_changed_120 : decode cX13_changed 120 = .ok (.getfield 72, 3) := by decide +kernel
theorem dX13_changed_123 : decode cX13_changed 123 = .ok (.iload 11, 2) := by decide +kernel
theorem dX13_changed_125 : decode cX13_changed 125 = .ok (.iconst 3, 1) := by decide +kernel
theorem dX13_changed_126 : decode cX13_changed 126 = .ok (.iadd, 1) := by decide +kernel
theorem dX13_changed_127 : decode cX13_changed 127 = .ok (.laload, 1) := by decide +kernel
theorem dX13_changed_128 : decode cX13_changed 128 = .ok (.lload_n 3, 1) := by decide +kernel
theorem dX13_changed_129 : decode cX13_changed 129 = .ok (.lcmp, 1) := by decide +kernel
theorem dX13_changed_130 : decode cX13_changed 130 = .ok (.ifCond .lt 7, 3) := by decide +kernel
theorem dX13_changed_133 : decode cX13_changed 133 = .ok (.iconst 1, 1) := by decide +kernel
theorem dX13_changed_134 : decode cX13_changed 134 = .ok (.goto 4, 3) := by decide +kernel
theorem dX13_changed_137 : decode cX13_changed 137 = .ok (.iconst 0, 1) := by decide +kernel
theorem dX13_changed_138 : decode cX13_changed 138 = .ok (.iadd, 1) := by decide +kernel
theorem dX13_changed_139 : decode cX13_changed 139 = .ok (.istore 9, 2) := by decide +kernel
theorem dX13_changed_141 : decode cX13_changed 141 = .ok (.iinc 10 1, 3) := by decide +kernel
theorem dX13_changed_144 : decode cX13_changed 144 = .ok (.goto (-96), 3) := by decide +kernel
theorem dX13_changed_147 : decode cX13_changed 147 = .ok (.iload 9, 2) := by decide +kernel
theorem dX13_changed_149 : decode cX13_changed 149 = .ok (.ireturn, 1) := by decide +kernel
set_option maxRecDepth 20000 in
theorem ggX13_same_X13_isRule : GoodIn wsX13_same wsX13_isRule := goodIn_r _ [10, 11, 218, 219, 220, 221, 222, 223, 224, 225, 226, 227, 228, 229, 230, 231, 232, 233, 234, 235, 236, 237, 238, 239, 240, 241, 242, 243, 244, 245, 246, 247, 248, 249, 250, 251, 252, 253, 254, 255, 256, 257, 258, 259, 260, 261, 262, 263, 264, 265, 266, 267, 268, 269, 270, 271, 272, 273, 274, 275, 276, 277, 278, 279, 280, 281, 282, 283, 284, 285, 286, 287, 288] (by decide +kernel) (by decide +kernel)
set_option maxRecDepth 20000 in
theorem gX13_same_X13_isRule : GoodIn wsX13_same (wsV RX13 345 RX13 yX13_isRule wsX13_isRule) := goodIn_app (goodIn_of _ (by decide +kernel)) ggX13_same_X13_isRule
set_option maxRecDepth 20000 in
theorem ggX13_same_X13_isCell : GoodIn wsX13_same wsX13_isCell := goodIn_r _ [15, 16, 218, 219, 220, 221, 222, 223, 224, 225, 226, 227, 228, 229, 230, 231, 232, 233, 234, 235, 236, 237, 238, 239, 240, 241, 242, 243, 244, 245, 246, 247, 248, 249, 250, 251, 252, 253, 254, 255, 256, 257, 258, 259, 260, 261, 262, 263, 264, 265, 266, 267, 268, 269, 270, 271, 272, 273, 274, 275, 276, 277, 278, 279, 280, 281, 282, 283, 284, 285, 286, 287, 288] (by decide +kernel) (by decide +kernel)
set_option maxRecDepth 20000 in
theorem gX13_same_X13_isCell : GoodIn wsX13_same (wsV RX13 151 RX13 yX13_isCell wsX13_isCell) := goodIn_app (goodIn_of _ (by decide +kernel)) ggX13_same_X13_isCell
theorem dX13_same_0 : decode cX13_same 0 = .ok (.aload_n 0, 1) := by decide +kernel
theorem dX13_same_1 : decode cX13_same 1 = .ok (.aload_n 0, 1) := by decide +kernel
theorem dX13_same_2 : decode cX13_same 2 = .ok (.iload_n 1, 1) := by decide +kernel
theorem dX13_same_3 : decode cX13_same 3 = .ok (.invokevirtual 345, 3) := by decide +kernel
theorem dX13_same_6 : decode cX13_same 6 = .ok (.ifCond .eq 11, 3) := by decide +kernel
theorem dX13_same_9 : decode cX13_same 9 = .ok (.aload_n 0, 1) := by decide +kernel
theorem dX13_same_10 : decode cX13_same 10 = .ok (.iload_n 2, 1) := by decide +kernel
theorem dX13_same_11 : decode cX13_same 11 = .ok (.invokevirtual 151, 3) := by decide +kernel
theorem dX13_same_14 : decode cX13_same 14 = .ok (.ifCond .ne 7, 3) := by decide +kernel
theorem dX13_same_17 : decode cX13_same 17 = .ok (.iconst 1, 1) := by decide +kernel
theorem dX13_same_18 : decode cX13_same 18 = .ok (.goto 4, 3) := by decide +kernel
theorem dX13_same_21 : decode cX13_same 21 = .ok (.iconst 0, 1) := by decide +kernel
theorem dX13_same_22 : decode cX13_same 22 = .ok (.putfield 141, 3) := by decide +kernel
theorem dX13_same_25 : decode cX13_same 25 = .ok (.aload_n 0, 1) := by decide +kernel
theorem dX13_same_26 : decode cX13_same 26 = .ok (.getfield 141, 3) := by decide +kernel
theorem dX13_same_29 : decode cX13_same 29 = .ok (.ifCond .ne 34, 3) := by decide +kernel
theorem dX13_same_32 : decode cX13_same 32 = .ok (.aload_n 0, 1) := by decide +kernel
theorem dX13_same_33 : decode cX13_same 33 = .ok (.aload_n 0, 1) := by decide +kernel
theorem dX13_same_34 : decode cX13_same 34 = .ok (.iload_n 2, 1) := by decide +kernel
theorem dX13_same_35 : decode cX13_same 35 = .ok (.invokevirtual 218, 3) := by decide +kernel
theorem dX13_same_38 : decode cX13_same 38 = .ok (.ldc2_w 221, 3) := by decide +kernel
theorem dX13_same_41 : decode cX13_same 41 = .ok (.lcmp, 1) := by decide +kernel
theorem dX13_same_42 : decode cX13_same 42 = .ok (.ifCond .gt 13, 3) := by decide +kernel
theorem dX13_same_45 : decode cX13_same 45 = .ok (.aload_n 0, 1) := by decide +kernel
theorem dX13_same_46 : decode cX13_same 46 = .ok (.iload_n 1, 1) := by decide +kernel
theorem dX13_same_47 : decode cX13_same 47 = .ok (.iload_n 2, 1) := by decide +kernel
theorem dX13_same_48 : decode cX13_same 48 = .ok (.iconst 1, 1) := by decide +kernel
theorem dX13_same_49 : decode cX13_same 49 = .ok (.invokevirtual 348, 3) := by decide +kernel
theorem dX13_same_52 : decode cX13_same 52 = .ok (.ifCond .ne 7, 3) := by decide +kernel
theorem dX13_same_55 : decode cX13_same 55 = .ok (.iconst 2, 1) := by decide +kernel
theorem dX13_same_56 : decode cX13_same 56 = .ok (.goto 4, 3) := by decide +kernel
theorem dX13_same_59 : decode cX13_same 59 = .ok (.iconst 0, 1) := by decide +kernel
theorem dX13_same_60 : decode cX13_same 60 = .ok (.putfield 141, 3) := by decide +kernel
theorem dX13_same_63 : decode cX13_same 63 = .ok (.aload_n 0, 1) := by decide +kernel
theorem dX13_same_64 : decode cX13_same 64 = .ok (.getfield 141, 3) := by decide +kernel
theorem dX13_same_67 : decode cX13_same 67 = .ok (.ifCond .le 5, 3) := by decide +kernel
theorem dX13_same_70 : decode cX13_same 70 = .ok (.iconst 0, 1) := by decide +kernel
theorem dX13_same_71 : decode cX13_same 71 = .ok (.ireturn, 1) := by decide +kernel
theorem dX13_same_72 : decode cX13_same 72 = .ok (.aload_n 0, 1) := by decide +kernel
theorem dX13_same_73 : decode cX13_same 73 = .ok (.invokevirtual 371, 3) := by decide +kernel
theorem dX13_same_76 : decode cX13_same 76 = .ok (.aload_n 0, 1) := by decide +kernel
theorem dX13_same_77 : decode cX13_same 77 = .ok (.aload_n 0, 1) := by decide +kernel
theorem dX13_same_78 : decode cX13_same 78 = .ok (.iload_n 1, 1) := by decide +kernel
theorem dX13_same_79 : decode cX13_same 79 = .ok (.iload_n 2, 1) := by decide +kernel
theorem dX13_same_80 : decode cX13_same 80 = .ok (.iconst 0, 1) := by decide +kernel
theorem dX13_same_81 : decode cX13_same 81 = .ok (.invokevirtual 348, 3) := by decide +kernel
theorem dX13_same_84 : decode cX13_same 84 = .ok (.ifCond .eq 7, 3) := by decide +kernel
theorem dX13_same_87 : decode cX13_same 87 = .ok (.iconst 0, 1) := by decide +kernel
theorem dX13_same_88 : decode cX13_same 88 = .ok (.goto 4, 3) := by decide +kernel
theorem dX13_same_91 : decode cX13_same 91 = .ok (.iconst 2, 1) := by decide +kernel
theorem dX13_same_92 : decode cX13_same 92 = .ok (.putfield 141, 3) := by decide +kernel
theorem dX13_same_95 : decode cX13_same 95 = .ok (.aload_n 0, 1) := by decide +kernel
theorem dX13_same_96 : decode cX13_same 96 = .ok (.getfield 141, 3) := by decide +kernel
theorem dX13_same_99 : decode cX13_same 99 = .ok (.ifCond .le 5, 3) := by decide +kernel
theorem dX13_same_102 : decode cX13_same 102 = .ok (.iconst 0, 1) := by decide +kernel
theorem dX13_same_103 : decode cX13_same 103 = .ok (.ireturn, 1) := by decide +kernel
theorem dX13_same_104 : decode cX13_same 104 = .ok (.iconst 0, 1) := by decide +kernel
theorem dX13_same_105 : decode cX13_same 105 = .ok (.istore_n 3, 1) := by decide +kernel
theorem dX13_same_106 : decode cX13_same 106 = .ok (.iload_n 3, 1) := by decide +kernel
theorem dX13_same_107 : decode cX13_same 107 = .ok (.aload_n 0, 1) := by decide +kernel
theorem dX13_same_108 : decode cX13_same 108 = .ok (.getfield 362, 3) := by decide +kernel
theorem dX13_same_111 : decode cX13_same 111 = .ok (.if_icmp .ge 16, 3) := by decide +kernel
theorem dX13_same_114 : decode cX13_same 114 = .ok (.aload_n 0, 1) := by decide +kernel
theorem dX13_same_115 : decode cX13_same 115 = .ok (.getfield 134, 3) := by decide +kernel
theorem dX13_same_118 : decode cX13_same 118 = .ok (.iload_n 3, 1) := by decide +kernel
theorem dX13_same_119 : decode cX13_same 119 = .ok (.iconst 0, 1) := by decide +kernel
theorem dX13_same_120 : decode cX13_same 120 = .ok (.bastore, 1) := by decide +kernel
theorem dX13_same_121 : decode cX13_same 121 = .ok (.iinc 3 1, 3) := by decide +kernel
theorem dX13_same_124 : decode cX13_same 124 = .ok (.goto (-18), 3) := by decide +kernel
theorem dX13_same_127 : decode cX13_same 127 = .ok (.iconst 1, 1) := by decide +kernel
theorem dX13_same_128 : decode cX13_same 128 = .ok (.istore_n 3, 1) := by decide +kernel
theorem dX13_same_129 : decode cX13_same 129 = .ok (.iconst 0, 1) := by decide +kernel
theorem dX13_same_130 : decode cX13_same 130 = .ok (.istore 4, 2) := by decide +kernel
theorem dX13_same_132 : decode cX13_same 132 = .ok (.iload 4, 2) := by decide +kernel
theorem dX13_same_134 : decode cX13_same 134 = .ok (.aload_n 0, 1) := by decide +kernel
theorem dX13_same_135 : decode cX13_same 135 = .ok (.getfield 257, 3) := by decide +kernel
theorem dX13_same_138 : decode cX13_same 138 = .ok (.if_icmp .ge 44, 3) := by decide +kernel
theorem dX13_same_141 : decode cX13_same 141 = .ok (.iload_n 3, 1) := by decide +kernel
theorem dX13_same_142 : decode cX13_same 142 = .ok (.ifCond .eq 40, 3) := by decide +kernel
theorem dX13_same_145 : decode cX13_same 145 = .ok (.aload_n 0, 1) := by decide +kernel
theorem dX13_same_146 : decode cX13_same 146 = .ok (.bipush 12, 2) := by decide +kernel
theorem dX13_same_148 : decode cX13_same 148 = .ok (.iload 4, 2) := by decide +kernel
theorem dX13_same_150 : decode cX13_same 150 = .ok (.imul, 1) := by decide +kernel
theorem dX13_same_151 : decode cX13_same 151 = .ok (.invokevirtual 327, 3) := by decide +kernel
theorem dX13_same_154 : decode cX13_same 154 = .ok (.ifCond .ne 16, 3) := by decide +kernel
theorem dX13_same_157 : decode cX13_same 157 = .ok (.aload_n 0, 1) := by decide +kernel
theorem dX13_same_158 : decode cX13_same 158 = .ok (.iload_n 2, 1) := by decide +kernel
theorem dX13_same_159 : decode cX13_same 159 = .ok (.bipush 12, 2) := by decide +kernel
theorem dX13_same_161 : decode cX13_same 161 = .ok (.iload 4, 2) := by decide +kernel
theorem dX13_same_163 : decode cX13_same 163 = .ok (.imul, 1) := by decide +kernel
theorem dX13_same_164 : decode cX13_same 164 = .ok (.invokevirtual 374, 3) := by decide +kernel
theorem dX13_same_167 : decode cX13_same 167 = .ok (.ifCond .eq 7, 3) := by decide +kernel
theorem dX13_same_170 : decode cX13_same 170 = .ok (.iconst 1, 1) := by decide +kernel
theorem dX13_same_171 : decode cX13_same 171 = .ok (.goto 4, 3) := by decide +kernel
theorem dX13_same_175 : decode cX13_same 175 = .ok (.istore_n 3, 1) := by decide +kernel
theorem dX13_same_176 : decode cX13_same 176 = .ok (.iinc 4 1, 3) := by decide +kernel
theorem dX13_same_179 : decode cX13_same 179 = .ok (.goto (-47), 3) := by decide +kernel
theorem dX13_same_182 : decode cX13_same 182 = .ok (.iconst 0, 1) := by decide +kernel
theorem dX13_same_183 : decode cX13_same 183 = .ok (.istore 4, 2) := by decide +kernel
theorem dX13_same_185 : decode cX13_same 185 = .ok (.iload 4, 2) := by decide +kernel
theorem dX13_same_187 : decode cX13_same 187 = .ok (.aload_n 0, 1) := by decide +kernel
theorem dX13_same_188 : decode cX13_same 188 = .ok (.getfield 362, 3) := by decide +kernel
theorem dX13_same_191 : decode cX13_same 191 = .ok (.if_icmp .ge 29, 3) := by decide +kernel
theorem dX13_same_194 : decode cX13_same 194 = .ok (.iload_n 3, 1) := by decide +kernel
theorem dX13_same_195 : decode cX13_same 195 = .ok (.ifCond .eq 17, 3) := by decide +kernel
theorem dX13_same_198 : decode cX13_same 198 = .ok (.aload_n 0, 1) := by decide +kernel
theorem dX13_same_199 : decode cX13_same 199 = .ok (.getfield 134, 3) := by decide +kernel
theorem dX13_same_202 : decode cX13_same 202 = .ok (.iload 4, 2) := by decide +kernel
theorem dX13_same_204 : decode cX13_same 204 = .ok (.baload, 1) := by decide +kernel
theorem dX13_same_205 : decode cX13_same 205 = .ok (.ifCond .eq 7, 3) := by decide +kernel
theorem dX13_same_208 : decode cX13_same 208 = .ok (.iconst 1, 1) := by decide +kernel
theorem dX13_same_209 : decode cX13_same 209 = .ok (.goto 4, 3) := by decide +kernel
theorem dX13_same_213 : decode cX13_same 213 = .ok (.istore_n 3, 1) := by decide +kernel
theorem dX13_same_214 : decode cX13_same 214 = .ok (.iinc 4 1, 3) := by decide +kernel
theorem dX13_same_217 : decode cX13_same 217 = .ok (.goto (-32), 3) := by decide +kernel
theorem dX13_same_220 : decode cX13_same 220 = .ok (.iload_n 3, 1) := by decide +kernel
theorem dX13_same_221 : decode cX13_same 221 = .ok (.ireturn, 1) := by decide +kernel
