theorem iwX3_hasCell_X3 : ∀ w ∈ wsX30, w ∈ wsX3_hasCell := by decide +kernel
theorem iwX3_hasPolygon_X3 : ∀ w ∈ wsX30, w ∈ wsX3_hasPolygon := by decide +kernel
theorem iwX12_cell_X12 : ∀ w ∈ wsX120, w ∈ wsX12_cell := by decide +kernel
theorem iwX12_cell_X3 : ∀ w ∈ wsX30, w ∈ wsX12_cell := by decide +kernel
theorem iwX12_polygon_X12 : ∀ w ∈ wsX120, w ∈ wsX12_polygon := by decide +kernel
theorem iwX12_polygon_X3 : ∀ w ∈ wsX30, w ∈ wsX12_polygon := by decide +kernel
theorem iwX12_corner_X12 : ∀ w ∈ wsX120, w ∈ wsX12_corner := by decide +kernel
theorem iwX12_corner_X3 : ∀ w ∈ wsX30, w ∈ wsX12_corner := by decide +kernel
theorem iwX12_corner_X5 : ∀ w ∈ wsX50, w ∈ wsX12_corner := by decide +kernel
theorem iwX12_voltage_X12 : ∀ w ∈ wsX120, w ∈ wsX12_voltage := by decide +kernel
theorem iwX12_voltage_X3 : ∀ w ∈ wsX30, w ∈ wsX12_voltage := by decide +kernel
theorem iwX12_voltage_X5 : ∀ w ∈ wsX50, w ∈ wsX12_voltage := by decide +kernel
theorem iwX12_occurrences_X12 : ∀ w ∈ wsX120, w ∈ wsX12_occurrences := by decide +kernel
theorem dX3_hasCell_0 : decode cX3_hasCell 0 = .ok (.iload_n 1, 1) := by decide +kernel
theorem dX3_hasCell_1 : decode cX3_hasCell 1 = .ok (.ifCond .lt 15, 3) := by decide +kernel
theorem dX3_hasCell_4 : decode cX3_hasCell 4 = .ok (.iload_n 1, 1) := by decide +kernel
theorem dX3_hasCell_5 : decode cX3_hasCell 5 = .ok (.aload_n 0, 1) := by decide +kernel
theorem dX3_hasCell_6 : decode cX3_hasCell 6 = .ok (.getfield 40, 3) := by decide +kernel
theorem dX3_hasCell_9 : decode cX3_hasCell 9 = .ok (.if_icmp .ge 7, 3) := by decide +kernel
theorem dX3_hasCell_12 : decode cX3_hasCell 12 = .ok (.iconst 1, 1) := by decide +kernel
theorem dX3_hasCell_13 : decode cX3_hasCell 13 = .ok (.goto 4, 3) := by decide +kernel
theorem dX3_hasCell_16 : decode cX3_hasCell 16 = .ok (.iconst 0, 1) := by decide +kernel
theorem dX3_hasCell_17 : decode cX3_hasCell 17 = .ok (.ireturn, 1) := by decide +kernel
theorem dX3_hasPolygon_0 : decode cX3_hasPolygon 0 = .ok (.iload_n 1, 1) := by decide +kernel
theorem dX3_hasPolygon_1 : decode cX3_hasPolygon 1 = .ok (.ifCond .lt 15, 3) := by decide +kernel
theorem dX3_hasPolygon_4 : decode cX3_hasPolygon 4 = .ok (.iload_n 1, 1) := by decide +kernel
theorem dX3_hasPolygon_5 : decode cX3_hasPolygon 5 = .ok (.aload_n 0, 1) := by decide +kernel
theorem dX3_hasPolygon_6 : decode cX3_hasPolygon 6 = .ok (.getfield 43, 3) := by decide +kernel
theorem dX3_hasPolygon_9 : decode cX3_hasPolygon 9 = .ok (.if_icmp .ge 7, 3) := by decide +kernel
theorem dX3_hasPolygon_12 : decode cX3_hasPolygon 12 = .ok (.iconst 1, 1) := by decide +kernel
theorem dX3_hasPolygon_13 : decode cX3_hasPolygon 13 = .ok (.goto 4, 3) := by decide +kernel
theorem dX3_hasPolygon_16 : decode cX3_hasPolygon 16 = .ok (.iconst 0, 1) := by decide +kernel
theorem dX3_hasPolygon_17 : decode cX3_hasPolygon 17 = .ok (.ireturn, 1) := by decide +kernel
theorem dX12_cell_0 : decode cX12_cell 0 = .ok (.aload_n 0, 1) := by decide +kernel
theorem dX12_cell_1 : decode cX12_cell 1 = .ok (.getfield 15, 3) := by decide +kernel
theorem dX12_cell_4 : decode cX12_cell 4 = .ok (.getfield 105, 3) := by decide +kernel
theorem dX12_cell_7 : decode cX12_cell 7 = .ok (.bipush 16, 2) := by decide +kernel
theorem dX12_cell_9 : decode cX12_cell 9 = .ok (.if_icmp .lt 13, 3) := by decide +kernel
theorem dX12_cell_12 : decode cX12_cell 12 = .ok (.new 108, 3) := by decide +kernel
theorem dX12_cell_15 : decode cX12_cell 15 = .ok (.dup, 1) := by decide +kernel
theorem dX12_cell_16 : decode cX12_cell 16 = .ok (.ldc 110, 2) := by decide +kernel
theorem dX12_cell_18 : decode cX12_cell 18 = .ok (.invokespecial 112, 3) := by decide +kernel
theorem dX12_cell_21 : decode cX12_cell 21 = .ok (.athrow, 1) := by decide +kernel
theorem dX12_cell_22 : decode cX12_cell 22 = .ok (.aload_n 0, 1) := by decide +kernel
theorem dX12_cell_23 : decode cX12_cell 23 = .ok (.getfield 15, 3) := by decide +kernel
theorem dX12_cell_26 : decode cX12_cell 26 = .ok (.dup, 1) := by decide +kernel
theorem dX12_cell_27 : decode cX12_cell 27 = .ok (.getfield 105, 3) := by decide +kernel
theorem dX12_cell_30 : decode cX12_cell 30 = .ok (.iconst 1, 1) := by decide +kernel
theorem dX12_cell_31 : decode cX12_cell 31 = .ok (.iadd, 1) := by decide +kernel
theorem dX12_cell_32 : decode cX12_cell 32 = .ok (.putfield 105, 3) := by decide +kernel
theorem dX12_cell_35 : decode cX12_cell 35 = .ok (.aload_n 0, 1) := by decide +kernel
theorem dX12_cell_36 : decode cX12_cell 36 = .ok (.getfield 15, 3) := by decide +kernel
theorem dX12_cell_39 : decode cX12_cell 39 = .ok (.getfield 105, 3) := by decide +kernel
theorem dX12_cell_42 : decode cX12_cell 42 = .ok (.iconst 1, 1) := by decide +kernel
theorem dX12_cell_43 : decode cX12_cell 43 = .ok (.isub, 1) := by decide +kernel
theorem dX12_cell_44 : decode cX12_cell 44 = .ok (.ireturn, 1) := by decide +kernel
set_option maxRecDepth 20000 in
theorem ggX12_polygon_X3_hasCell : GoodIn wsX12_polygon wsX3_hasCell := goodIn_r _ [12, 13, 49, 50, 51, 52, 53, 54, 55, 56, 57, 58] (by decide +kernel) (by decide +kernel)
set_option maxRecDepth 20000 in
theorem gX12_polygon_X3_hasCell : GoodIn wsX12_polygon (wsV RX12 115 RX3 yX3_hasCell wsX3_hasCell) := goodIn_app (goodIn_of _ (by decide +kernel)) ggX12_polygon_X3_hasCell
set_option maxRecDepth 20000 in
theorem ggX12_polygon_X3_addPolygon : GoodIn wsX12_polygon wsX3_addPolygon := goodIn_r _ [17, 18, 19, 20, 21, 22, 23, 24, 25, 26, 27, 28, 29, 30, 31, 32, 33, 34, 35, 49, 50, 51, 52, 53, 54, 55, 56, 57, 58, 59, 60, 61, 62, 63, 64, 65, 66, 67, 68] (by decide +kernel) (by decide +kernel)
set_option maxRecDepth 20000 in
theorem gX12_polygon_X3_addPolygon : GoodIn wsX12_polygon (wsV RX12 131 RX3 yX3_addPolygon wsX3_addPolygon) := goodIn_app (goodIn_of _ (by decide +kernel)) ggX12_polygon_X3_addPolygon
theorem dX12_polygon_0 : decode cX12_polygon 0 = .ok (.aload_n 0, 1) := by decide +kernel
theorem dX12_polygon_1 : decode cX12_polygon 1 = .ok (.getfield 15, 3) := by decide +kernel
theorem dX12_polygon_4 : decode cX12_polygon 4 = .ok (.iload_n 1, 1) := by decide +kernel
theorem dX12_polygon_5 : decode cX12_polygon 5 = .ok (.invokevirtual 115, 3) := by decide +kernel
theorem dX12_polygon_8 : decode cX12_polygon 8 = .ok (.ifCond .eq 18, 3) := by decide +kernel
theorem dX12_polygon_11 : decode cX12_polygon 11 = .ok (.iload_n 2, 1) := by decide +kernel
theorem dX12_polygon_12 : decode cX12_polygon 12 = .ok (.ifCond .lt 14, 3) := by decide +kernel
theorem dX12_polygon_15 : decode cX12_polygon 15 = .ok (.iload_n 2, 1) := by decide +kernel
theorem dX12_polygon_16 : decode cX12_polygon 16 = .ok (.aload_n 0, 1) := by decide +kernel
theorem dX12_polygon_17 : decode cX12_polygon 17 = .ok (.getfield 15, 3) := by decide +kernel
theorem dX12_polygon_20 : decode cX12_polygon 20 = .ok (.getfield 118, 3) := by decide +kernel
theorem dX12_polygon_23 : decode cX12_polygon 23 = .ok (.if_icmp .lt 13, 3) := by decide +kernel
theorem dX12_polygon_26 : decode cX12_polygon 26 = .ok (.new 121, 3) := by decide +kernel
theorem dX12_polygon_29 : decode cX12_polygon 29 = .ok (.dup, 1) := by decide +kernel
theorem dX12_polygon_30 : decode cX12_polygon 30 = .ok (.ldc 123, 2) := by decide +kernel
theorem dX12_polygon_32 : decode cX12_polygon 32 = .ok (.invokespecial 125, 3) := by decide +kernel
theorem dX12_polygon_35 : decode cX12_polygon 35 = .ok (.athrow, 1) := by decide +kernel
theorem dX12_polygon_36 : decode cX12_polygon 36 = .ok (.aload_n 0, 1) := by decide +kernel
theorem dX12_polygon_37 : decode cX12_polygon 37 = .ok (.getfield 15, 3) := by decide +kernel
theorem dX12_polygon_40 : decode cX12_polygon 40 = .ok (.getfield 126, 3) := by decide +kernel
theorem dX12_polygon_43 : decode cX12_polygon 43 = .ok (.bipush 64, 2) := by decide +kernel
theorem dX12_polygon_45 : decode cX12_polygon 45 = .ok (.if_icmp .lt 13, 3) := by decide +kernel
theorem dX12_polygon_48 : decode cX12_polygon 48 = .ok (.new 108, 3) := by decide +kernel
theorem dX12_polygon_51 : decode cX12_polygon 51 = .ok (.dup, 1) := by decide +kernel
theorem dX12_polygon_52 : decode cX12_polygon 52 = .ok (.ldc 129, 2) := by decide +kernel
theorem dX12_polygon_54 : decode cX12_polygon 54 = .ok (.invokespecial 112, 3) := by decide +kernel
theorem dX12_polygon_57 : decode cX12_polygon 57 = .ok (.athrow, 1) := by decide +kernel
theorem dX12_polygon_58 : decode cX12_polygon 58 = .ok (.aload_n 0, 1) := by decide +kernel
theorem dX12_polygon_59 : decode cX12_polygon 59 = .ok (.getfield 15, 3) := by decide +kernel
theorem dX12_polygon_62 : decode cX12_polygon 62 = .ok (.iload_n 1, 1) := by decide +kernel
theorem dX12_polygon_63 : decode cX12_polygon 63 = .ok (.iload_n 2, 1) := by decide +kernel
theorem dX12_polygon_64 : decode cX12_polygon 64 = .ok (.invokevirtual 131, 3) := by decide +kernel
theorem dX12_polygon_67 : decode cX12_polygon 67 = .ok (.ireturn, 1) := by decide +kernel
set_option maxRecDepth 20000 in
theorem ggX12_corner_X3_hasPolygon : GoodIn wsX12_corner wsX3_hasPolygon := goodIn_r _ [14, 15, 86, 87, 88, 89, 90, 91, 92, 93, 94, 95] (by decide +kernel) (by decide +kernel)
set_option maxRecDepth 20000 in
theorem gX12_corner_X3_hasPolygon : GoodIn wsX12_corner (wsV RX12 135 RX3 yX3_hasPolygon wsX3_hasPolygon) := goodIn_app (goodIn_of _ (by decide +kernel)) ggX12_corner_X3_hasPolygon
set_option maxRecDepth 20000 in
theorem ggX12_corner_X12_isCoordinate : GoodIn wsX12_corner wsX12_isCoordinate := goodIn_r _ [19, 20, 21] (by decide +kernel) (by decide +kernel)
set_option maxRecDepth 20000 in
theorem ggX12_corner_X5_extend : GoodIn wsX12_corner wsX5_extend := goodIn_r _ [26, 27, 28, 29, 30, 31, 32, 33, 25, 34, 35, 36, 37, 38, 39, 40, 41, 42, 43, 44, 45, 46, 47, 48, 49, 50, 51, 52, 53, 54, 55, 56, 57, 58, 59, 60, 61, 62, 63, 64, 65, 66, 67, 68, 69, 70, 71, 72, 96, 97, 98, 99, 100, 101, 102, 103, 104, 105] (by decide +kernel) (by decide +kernel)
set_option maxRecDepth 20000 in
theorem gX12_corner_X5_extend : GoodIn wsX12_corner (wsV RX12 160 RX5 yX5_extend wsX5_extend) := goodIn_app (goodIn_of _ (by decide +kernel)) ggX12_corner_X5_extend
theorem dX12_corner_0 : decode cX12_corner 0 = .ok (.aload_n 0, 1) := by decide +kernel
theorem dX12_corner_1 : decode cX12_corner 1 = .ok (.getfield 15, 3) := by decide +kernel
theorem dX12_corner_4 : decode cX12_corner 4 = .ok (.iload_n 1, 1) := by decide +kernel
theorem dX12_corner_5 : decode cX12_corner 5 = .ok (.invokevirtual 135, 3) := by decide +kernel
theorem dX12_corner_8 : decode cX12_corner 8 = .ok (.ifCond .ne 13, 3) := by decide +kernel
theorem dX12_corner_11 : decode cX12_corner 11 = .ok (.new 121, 3) := by decide +kernel
theorem dX12_corner_14 : decode cX12_corner 14 = .ok (.dup, 1) := by decide +kernel
theorem dX12_corner_15 : decode cX12_corner 15 = .ok (.ldc 138, 2) := by decide +kernel
theorem dX12_corner_17 : decode cX12_corner 17 = .ok (.invokespecial 125, 3) := by decide +kernel
theorem dX12_corner_20 : decode cX12_corner 20 = .ok (.athrow, 1) := by decide +kernel
theorem dX12_corner_21 : decode cX12_corner 21 = .ok (.aload_n 0, 1) := by decide +kernel
theorem dX12_corner_22 : decode cX12_corner 22 = .ok (.getfield 15, 3) := by decide +kernel
theorem dX12_corner_25 : decode cX12_corner 25 = .ok (.getfield 140, 3) := by decide +kernel
theorem dX12_corner_28 : decode cX12_corner 28 = .ok (.iload_n 1, 1) := by decide +kernel
theorem dX12_corner_29 : decode cX12_corner 29 = .ok (.aaload, 1) := by decide +kernel
theorem dX12_corner_30 : decode cX12_corner 30 = .ok (.astore 6, 2) := by decide +kernel
theorem dX12_corner_32 : decode cX12_corner 32 = .ok (.aload 6, 2) := by decide +kernel
theorem dX12_corner_34 : decode cX12_corner 34 = .ok (.getfield 144, 3) := by decide +kernel
theorem dX12_corner_37 : decode cX12_corner 37 = .ok (.bipush 16, 2) := by decide +kernel
theorem dX12_corner_39 : decode cX12_corner 39 = .ok (.if_icmp .lt 13, 3) := by decide +kernel
theorem dX12_corner_42 : decode cX12_corner 42 = .ok (.new 108, 3) := by decide +kernel
theorem dX12_corner_45 : decode cX12_corner 45 = .ok (.dup, 1) := by decide +kernel
theorem dX12_corner_46 : decode cX12_corner 46 = .ok (.ldc 149, 2) := by decide +kernel
theorem dX12_corner_48 : decode cX12_corner 48 = .ok (.invokespecial 112, 3) := by decide +kernel
theorem dX12_corner_51 : decode cX12_corner 51 = .ok (.athrow, 1) := by decide +kernel
theorem dX12_corner_52 : decode cX12_corner 52 = .ok (.lload_n 2, 1) := by decide +kernel
theorem dX12_corner_53 : decode cX12_corner 53 = .ok (.invokestatic 151, 3) := by decide +kernel
theorem dX12_corner_56 : decode cX12_corner 56 = .ok (.ifCond .eq 11, 3) := by decide +kernel
theorem dX12_corner_59 : decode cX12_corner 59 = .ok (.lload 4, 2) := by decide +kernel
theorem dX12_corner_61 : decode cX12_corner 61 = .ok (.invokestatic 151, 3) := by decide +kernel
theorem dX12_corner_64 : decode cX12_corner 64 = .ok (.ifCond .ne 13, 3) := by decide +kernel
theorem dX12_corner_67 : decode cX12_corner 67 = .ok (.new 155, 3) := by decide +kernel
theorem dX12_corner_70 : decode cX12_corner 70 = .ok (.dup, 1) := by decide +kernel
theorem dX12_corner_71 : decode cX12_corner 71 = .ok (.ldc 157, 2) := by decide +kernel
theorem dX12_corner_73 : decode cX12_corner 73 = .ok (.invokespecial 159, 3) := by decide +kernel
theorem dX12_corner_76 : decode cX12_corner 76 = .ok (.athrow, 1) := by decide +kernel
theorem dX12_corner_77 : decode cX12_corner 77 = .ok (.aload 6, 2) := by decide +kernel
theorem dX12_corner_79 : decode cX12_corner 79 = .ok (.lload_n 2, 1) := by decide +kernel
theorem dX12_corner_80 : decode cX12_corner 80 = .ok (.l2i, 1) := by decide +kernel
theorem dX12_corner_81 : decode cX12_corner 81 = .ok (.lload 4, 2) := by decide +kernel
theorem dX12_corner_83 : decode cX12_corner 83 = .ok (.l2i, 1) := by decide +kernel
theorem dX12_corner_84 : decode cX12_corner 84 = .ok (.invokevirtual 160, 3) := by decide +kernel
theorem dX12_corner_87 : decode cX12_corner 87 = .ok (.ireturn, 1) := by decide +kernel
set_option maxRecDepth 20000 in
theorem ggX12_voltage_X3_hasPolygon : GoodIn wsX12_voltage wsX3_hasPolygon := goodIn_r _ [14, 15, 29, 30, 31, 32, 33, 34, 35, 36, 37, 38] (by decide +kernel) (by decide +kernel)
set_option maxRecDepth 20000 in
theorem gX12_voltage_X3_hasPolygon : GoodIn wsX12_voltage (wsV RX12 135 RX3 yX3_hasPolygon wsX3_hasPolygon) := goodIn_app (goodIn_of _ (by decide +kernel)) ggX12_voltage_X3_hasPolygon
theorem dX12_voltage_0 : decode cX12_voltage 0 = .ok (.aload_n 0, 1) := by decide +kernel
theorem dX12_voltage_1 : decode cX12_voltage 1 = .ok (.getfield 15, 3) := by decide +kernel
theorem dX12_voltage_4 : decode cX12_voltage 4 = .ok (.iload_n 1, 1) := by decide +kernel
theorem dX12_voltage_5 : decode cX12_voltage 5 = .ok (.invokevirtual 135, 3) := by decide +kernel
theorem dX12_voltage_8 : decode cX12_voltage 8 = .ok (.ifCond .ne 13, 3) := by decide +kernel
theorem dX12_voltage_11 : decode cX12_voltage 11 = .ok (.new 121, 3) := by decide +kernel
theorem dX12_voltage_14 : decode cX12_voltage 14 = .ok (.dup, 1) := by decide +kernel
theorem dX12_voltage_15 : decode cX12_voltage 15 = .ok (.ldc 138, 2) := by decide +kernel
theorem dX12_voltage_17 : decode cX12_voltage 17 = .ok (.invokespecial 125, 3) := by decide +kernel
theorem dX12_voltage_20 : decode cX12_voltage 20 = .ok (.athrow, 1) := by decide +kernel
theorem dX12_voltage_21 : decode cX12_voltage 21 = .ok (.lload_n 2, 1) := by decide +kernel
theorem dX12_voltage_22 : decode cX12_voltage 22 = .ok (.ldc2_w 164, 3) := by decide +kernel
theorem dX12_voltage_25 : decode cX12_voltage 25 = .ok (.lcmp, 1) := by decide +kernel
theorem dX12_voltage_26 : decode cX12_voltage 26 = .ok (.ifCond .lt 11, 3) := by decide +kernel
theorem dX12_voltage_29 : decode cX12_voltage 29 = .ok (.lload_n 2, 1) := by decide +kernel
theorem dX12_voltage_30 : decode cX12_voltage 30 = .ok (.ldc2_w 166, 3) := by decide +kernel
theorem dX12_voltage_33 : decode cX12_voltage 33 = .ok (.lcmp, 1) := by decide +kernel
theorem dX12_voltage_34 : decode cX12_voltage 34 = .ok (.ifCond .le 13, 3) := by decide +kernel
theorem dX12_voltage_37 : decode cX12_voltage 37 = .ok (.new 155, 3) := by decide +kernel
theorem dX12_voltage_40 : decode cX12_voltage 40 = .ok (.dup, 1) := by decide +kernel
theorem dX12_voltage_41 : decode cX12_voltage 41 = .ok (.ldc 168, 2) := by decide +kernel
theorem dX12_voltage_43 : decode cX12_voltage 43 = .ok (.invokespecial 159, 3) := by decide +kernel
theorem dX12_voltage_46 : decode cX12_voltage 46 = .ok (.athrow, 1) := by decide +kernel
theorem dX12_voltage_47 : decode cX12_voltage 47 = .ok (.aload_n 0, 1) := by decide +kernel
theorem dX12_voltage_48 : decode cX12_voltage 48 = .ok (.getfield 15, 3) := by decide +kernel
theorem dX12_voltage_51 : decode cX12_voltage 51 = .ok (.getfield 140, 3) := by decide +kernel
theorem dX12_voltage_54 : decode cX12_voltage 54 = .ok (.iload_n 1, 1) := by decide +kernel
theorem dX12_voltage_55 : decode cX12_voltage 55 = .ok (.aaload, 1) := by decide +kernel
theorem dX12_voltage_56 : decode cX12_voltage 56 = .ok (.astore 4, 2) := by decide +kernel
theorem dX12_voltage_58 : decode cX12_voltage 58 = .ok (.aload 4, 2) := by decide +kernel
theorem dX12_voltage_60 : decode cX12_voltage 60 = .ok (.getfield 170, 3) := by decide +kernel
theorem dX12_voltage_63 : decode cX12_voltage 63 = .ok (.i2l, 1) := by decide +kernel
theorem dX12_voltage_64 : decode cX12_voltage 64 = .ok (.lload_n 2, 1) := by decide +kernel
theorem dX12_voltage_65 : decode cX12_voltage 65 = .ok (.lcmp, 1) := by decide +kernel
theorem dX12_voltage_66 : decode cX12_voltage 66 = .ok (.ifCond .eq 7, 3) := by decide +kernel
theorem dX12_voltage_69 : decode cX12_voltage 69 = .ok (.iconst 1, 1) := by decide +kernel
theorem dX12_voltage_70 : decode cX12_voltage 70 = .ok (.goto 4, 3) := by decide +kernel
theorem dX12_voltage_73 : decode cX12_voltage 73 = .ok (.iconst 0, 1) := by decide +kernel
theorem dX12_voltage_74 : decode cX12_voltage 74 = .ok (.istore 5, 2) := by decide +kernel
theorem dX12_voltage_76 : decode cX12_voltage 76 = .ok (.aload 4, 2) := by decide +kernel
theorem dX12_voltage_78 : decode cX12_voltage 78 = .ok (.lload_n 2, 1) := by decide +kernel
theorem dX12_voltage_79 : decode cX12_voltage 79 = .ok (.l2i, 1) := by decide +kernel
theorem dX12_voltage_80 : decode cX12_voltage 80 = .ok (.putfield 170, 3) := by decide +kernel
theorem dX12_voltage_83 : decode cX12_voltage 83 = .ok (.iload 5, 2) := by decide +kernel
theorem dX12_voltage_85 : decode cX12_voltage 85 = .ok (.ireturn, 1) := by decide +kernel
set_option maxRecDepth 20000 in
theorem ggX12_occurrences_X3_hasCell : GoodIn wsX12_occurrences wsX3_hasCell := goodIn_r _ [10, 11, 50, 51, 52, 53, 54, 55, 56, 57, 58, 59] (by decide +kernel) (by decide +kernel)
set_option maxRecDepth 20000 in
theorem gX12_occurrences_X3_hasCell : GoodIn wsX12_occurrences (wsV RX12 115 RX3 yX3_hasCell wsX3_hasCell) := goodIn_app (goodIn_of _ (by decide +kernel)) ggX12_occurrences_X3_hasCell
set_option maxRecDepth 20000 in
theorem ggX12_occurrences_X3_tally : GoodIn wsX12_occurrences wsX3_tally := goodIn_r _ [15, 16, 11, 17, 18, 19, 20, 21, 22, 23, 9, 24, 25, 26, 27, 28, 29, 30, 31, 32, 33, 34, 35, 36, 50, 51, 52, 53, 54, 55, 56, 57, 58, 59, 60, 61, 62, 63, 64, 65, 66, 67, 68, 69] (by decide +kernel) (by decide +kernel)
set_option maxRecDepth 20000 in
theorem gX12_occurrences_X3_tally : GoodIn wsX12_occurrences (wsV RX12 257 RX3 yX3_tally wsX3_tally) := goodIn_app (goodIn_of _ (by decide +kernel)) ggX12_occurrences_X3_tally
theorem dX12_occurrences_0 : decode cX12_occurrences 0 = .ok (.aload_n 0, 1) := by decide +kernel
theorem dX12_occurrences_1 : decode cX12_occurrences 1 = .ok (.getfield 15, 3) := by decide +kernel
theorem dX12_occurrences_4 : decode cX12_occurrences 4 = .ok (.iload_n 1, 1) := by decide +kernel
theorem dX12_occurrences_5 : decode cX12_occurrences 5 = .ok (.invokevirtual 115, 3) := by decide +kernel
theorem dX12_occurrences_8 : decode cX12_occurrences 8 = .ok (.ifCond .ne 13, 3) := by decide +kernel
theorem dX12_occurrences_11 : decode cX12_occurrences 11 = .ok (.new 121, 3) := by decide +kernel
theorem dX12_occurrences_14 : decode cX12_occurrences 14 = .ok (.dup, 1) := by decide +kernel
theorem dX12_occurrences_15 : decode cX12_occurrences 15 = .ok (.ldc 173, 2) := by decide +kernel
theorem dX12_occurrences_17 : decode cX12_occurrences 17 = .ok (.invokespecial 125, 3) := by decide +kernel
theorem dX12_occurrences_20 : decode cX12_occurrences 20 = .ok (.athrow, 1) := by decide +kernel
theorem dX12_occurrences_21 : decode cX12_occurrences 21 = .ok (.aload_n 0, 1) := by decide +kernel
theorem dX12_occurrences_22 : decode cX12_occurrences 22 = .ok (.getfield 15, 3) := by decide +kernel
theorem dX12_occurrences_25 : decode cX12_occurrences 25 = .ok (.iload_n 1, 1) := by decide +kernel
theorem dX12_occurrences_26 : decode cX12_occurrences 26 = .ok (.invokevirtual 257, 3) := by decide +kernel
theorem dX12_occurrences_29 : decode cX12_occurrences 29 = .ok (.istore_n 2, 1) := by decide +kernel
theorem dX12_occurrences_30 : decode cX12_occurrences 30 = .ok (.iload_n 2, 1) := by decide +kernel
theorem dX12_occurrences_31 : decode cX12_occurrences 31 = .ok (.bipush 100, 2) := by decide +kernel
theorem dX12_occurrences_33 : decode cX12_occurrences 33 = .ok (.if_icmp .le 14, 3) := by decide +kernel
theorem dX12_occurrences_36 : decode cX12_occurrences 36 = .ok (.new 202, 3) := by decide +kernel
theorem dX12_occurrences_39 : decode cX12_occurrences 39 = .ok (.dup, 1) := by decide +kernel
theorem dX12_occurrences_40 : decode cX12_occurrences 40 = .ok (.ldc_w 261, 3) := by decide +kernel
theorem dX12_occurrences_43 : decode cX12_occurrences 43 = .ok (.invokespecial 206, 3) := by decide +kernel
theorem dX12_occurrences_46 : decode cX12_occurrences 46 = .ok (.athrow, 1) := by decide +kernel
theorem dX12_occurrences_47 : decode cX12_occurrences 47 = .ok (.iload_n 2, 1) := by decide +kernel
theorem dX12_occurrences_48 : decode cX12_occurrences 48 = .ok (.ireturn, 1) := by decide +kernel

abbrev mX3_hasCell : sv_M := (cX3_hasCell, 2, yX3_hasCell, wsX3_hasCell, (some .boolean), { frames := 0, cells := 0, slots := 0, locals := 0 }, [])
abbrev mX3_hasPolygon : sv_M := (cX3_hasPolygon, 2, yX3_hasPolygon, wsX3_hasPolygon, (some .boolean), { frames := 0, cells := 0, slots := 0, locals := 0 }, [])
set_option maxHeartbeats 4000000 in
set_option maxRecDepth 100000 in
theorem c_hasCell (G : sv_G) (h : sv_h) (z ly : Nat) (c : Int32) (po hd hs mo he nh : Nat) (k cs pn pl : Int32) (hly : h ly = some (.inr (1, [.int k, .int cs, .ref po, .int pn, .ref hd, .ref hs, .ref mo, .int pl, .ref he, .ref nh]))) : CT G mX3_hasCell [.ref ly, .int c] h z (fun v h1 z1 => v = some (.int (if 0 ≤ c ∧ c < cs then 1 else 0)) ∧ h1 = h ∧ z1 = z) := by
  refine CT.of (by decide +kernel) rfl rfl (Nat.le_of_ble_eq_true rfl) ?_
  refine v_iload_n dX3_hasCell_0 rfl 1 rfl ?_
  refine v_if_lt (tgt := 16) dX3_hasCell_1 (by decide) (fun c_1 => ?_) (fun c_1 => ?_)
  · refine v_iconst (v := 0) dX3_hasCell_16 (by decide) ?_
    exact v_iret rfl dX3_hasCell_17 (Nat.le_of_ble_eq_true rfl) (Nat.le_of_ble_eq_true rfl) rfl ⟨by simp only [Int32.lt_iff_toInt_lt, Int32.le_iff_toInt_le, sv_i0, sv_i1, sv_i2, sv_i3, sv_i4, sv_i5, sv_i6, sv_i7, sv_i8, sv_i9, sv_i10, sv_i16, sv_i17, sv_i20, sv_i32, sv_i40, sv_i64, sv_i100, sv_i126, sv_i255, sv_i600, sv_i1500, sv_i65536, sv_im1] at *; first | (rw [if_pos (by omega)]) | (rw [if_neg (by omega)]), rfl, rfl⟩
  · refine v_iload_n dX3_hasCell_4 rfl 1 rfl ?_
    refine v_aload_n dX3_hasCell_5 rfl 0 rfl ?_
    refine v_getf 1 (ci := 1) (C := RX3) (T := TX3) (N := 10) rfl iwX3_hasCell_X3 (Nat.le_of_ble_eq_true rfl) (by decide +kernel) dX3_hasCell_6 (by repeat (first | (with_reducible refine sv_us.trans ?_; exact rfl) | with_reducible assumption | with_reducible refine (sv_un (by omega)).trans ?_)) rfl ?_
    refine v_icmp_ge (tgt := 16) dX3_hasCell_9 (by decide) (fun c_9 => ?_) (fun c_9 => ?_)
    · refine v_iconst (v := 0) dX3_hasCell_16 (by decide) ?_
      exact v_iret rfl dX3_hasCell_17 (Nat.le_of_ble_eq_true rfl) (Nat.le_of_ble_eq_true rfl) rfl ⟨by simp only [Int32.lt_iff_toInt_lt, Int32.le_iff_toInt_le, sv_i0, sv_i1, sv_i2, sv_i3, sv_i4, sv_i5, sv_i6, sv_i7, sv_i8, sv_i9, sv_i10, sv_i16, sv_i17, sv_i20, sv_i32, sv_i40, sv_i64, sv_i100, sv_i126, sv_i255, sv_i600, sv_i1500, sv_i65536, sv_im1] at *; first | (rw [if_pos (by omega)]) | (rw [if_neg (by omega)]), rfl, rfl⟩
    · refine v_iconst (v := 1) dX3_hasCell_12 (by decide) ?_
      refine v_goto (tgt := 17) dX3_hasCell_13 (by decide) ?_
      exact v_iret rfl dX3_hasCell_17 (Nat.le_of_ble_eq_true rfl) (Nat.le_of_ble_eq_true rfl) rfl ⟨by simp only [Int32.lt_iff_toInt_lt, Int32.le_iff_toInt_le, sv_i0, sv_i1, sv_i2, sv_i3, sv_i4, sv_i5, sv_i6, sv_i7, sv_i8, sv_i9, sv_i10, sv_i16, sv_i17, sv_i20, sv_i32, sv_i40, sv_i64, sv_i100, sv_i126, sv_i255, sv_i600, sv_i1500, sv_i65536, sv_im1] at *; first | (rw [if_pos (by omega)]) | (rw [if_neg (by omega)]), rfl, rfl⟩

set_option maxHeartbeats 4000000 in
set_option maxRecDepth 100000 in
theorem c_hasPolygon (G : sv_G) (h : sv_h) (z ly : Nat) (c : Int32) (po hd hs mo he nh : Nat) (k cs pn pl : Int32) (hly : h ly = some (.inr (1, [.int k, .int cs, .ref po, .int pn, .ref hd, .ref hs, .ref mo, .int pl, .ref he, .ref nh]))) : CT G mX3_hasPolygon [.ref ly, .int c] h z (fun v h1 z1 => v = some (.int (if 0 ≤ c ∧ c < pn then 1 else 0)) ∧ h1 = h ∧ z1 = z) := by
  refine CT.of (by decide +kernel) rfl rfl (Nat.le_of_ble_eq_true rfl) ?_
  refine v_iload_n dX3_hasPolygon_0 rfl 1 rfl ?_
  refine v_if_lt (tgt := 16) dX3_hasPolygon_1 (by decide) (fun c_1 => ?_) (fun c_1 => ?_)
  · refine v_iconst (v := 0) dX3_hasPolygon_16 (by decide) ?_
    exact v_iret rfl dX3_hasPolygon_17 (Nat.le_of_ble_eq_true rfl) (Nat.le_of_ble_eq_true rfl) rfl ⟨by simp only [Int32.lt_iff_toInt_lt, Int32.le_iff_toInt_le, sv_i0, sv_i1, sv_i2, sv_i3, sv_i4, sv_i5, sv_i6, sv_i7, sv_i8, sv_i9, sv_i10, sv_i16, sv_i17, sv_i20, sv_i32, sv_i40, sv_i64, sv_i100, sv_i126, sv_i255, sv_i600, sv_i1500, sv_i65536, sv_im1] at *; first | (rw [if_pos (by omega)]) | (rw [if_neg (by omega)]), rfl, rfl⟩
  · refine v_iload_n dX3_hasPolygon_4 rfl 1 rfl ?_
    refine v_aload_n dX3_hasPolygon_5 rfl 0 rfl ?_
    refine v_getf 3 (ci := 1) (C := RX3) (T := TX3) (N := 10) rfl iwX3_hasPolygon_X3 (Nat.le_of_ble_eq_true rfl) (by decide +kernel) dX3_hasPolygon_6 (by repeat (first | (with_reducible refine sv_us.trans ?_; exact rfl) | with_reducible assumption | with_reducible refine (sv_un (by omega)).trans ?_)) rfl ?_
    refine v_icmp_ge (tgt := 16) dX3_hasPolygon_9 (by decide) (fun c_9 => ?_) (fun c_9 => ?_)
    · refine v_iconst (v := 0) dX3_hasPolygon_16 (by decide) ?_
      exact v_iret rfl dX3_hasPolygon_17 (Nat.le_of_ble_eq_true rfl) (Nat.le_of_ble_eq_true rfl) rfl ⟨by simp only [Int32.lt_iff_toInt_lt, Int32.le_iff_toInt_le, sv_i0, sv_i1, sv_i2, sv_i3, sv_i4, sv_i5, sv_i6, sv_i7, sv_i8, sv_i9, sv_i10, sv_i16, sv_i17, sv_i20, sv_i32, sv_i40, sv_i64, sv_i100, sv_i126, sv_i255, sv_i600, sv_i1500, sv_i65536, sv_im1] at *; first | (rw [if_pos (by omega)]) | (rw [if_neg (by omega)]), rfl, rfl⟩
    · refine v_iconst (v := 1) dX3_hasPolygon_12 (by decide) ?_
      refine v_goto (tgt := 17) dX3_hasPolygon_13 (by decide) ?_
      exact v_iret rfl dX3_hasPolygon_17 (Nat.le_of_ble_eq_true rfl) (Nat.le_of_ble_eq_true rfl) rfl ⟨by simp only [Int32.lt_iff_toInt_lt, Int32.le_iff_toInt_le, sv_i0, sv_i1, sv_i2, sv_i3, sv_i4, sv_i5, sv_i6, sv_i7, sv_i8, sv_i9, sv_i10, sv_i16, sv_i17, sv_i20, sv_i32, sv_i40, sv_i64, sv_i100, sv_i126, sv_i255, sv_i600, sv_i1500, sv_i65536, sv_im1] at *; first | (rw [if_pos (by omega)]) | (rw [if_neg (by omega)]), rfl, rfl⟩

abbrev mX12_cell : sv_M := (cX12_cell, 1, yX12_cell, wsX12_cell, (some .int), { frames := 6, cells := 1, slots := 6, locals := 100 }, [])
set_option maxHeartbeats 4000000 in
set_option maxRecDepth 100000 in
theorem c_cell (G : sv_G) (hl0 : G.1.stackTraces = false) (h : sv_h) (z b : Nat) (ly tp rd ck wv ru la fo fl lo : Nat) (rc lr lf : Int32) (po hd hs mo he nh : Nat) (k cs pn pl : Int32) (hb : h b = some (.inr (10, [.ref ly, .ref tp, .ref rd, .ref ck, .ref wv, .ref ru, .int rc, .int lr, .int lf, .ref la, .ref fo, .ref fl, .ref lo]))) (hly : h ly = some (.inr (1, [.int k, .int cs, .ref po, .int pn, .ref hd, .ref hs, .ref mo, .int pl, .ref he, .ref nh]))) (hne : b ≠ ly) : CX G mX12_cell [.ref b] h z (fun v h1 z1 => cs < 16 ∧ v = some (.int (cs + 1 - 1)) ∧ h1 = va_up h ly (some (.inr (1, [.int k, .int (cs + 1), .ref po, .int pn, .ref hd, .ref hs, .ref mo, .int pl, .ref he, .ref nh]))) ∧ z1 = z) (fun E h1 z1 => ¬ cs < 16 ∧ E = "java/lang/IllegalStateException" ∧ h1 = h) := by
  refine CX.of (by decide +kernel) rfl rfl (Nat.le_of_ble_eq_true rfl) ?_
  refine v_aload_n dX12_cell_0 rfl 0 rfl ?_
  refine v_getf 0 (ci := 10) (C := RX12) (T := TX12) (N := 13) rfl iwX12_cell_X12 (Nat.le_of_ble_eq_true rfl) (by decide +kernel) dX12_cell_1 (by repeat (first | (with_reducible refine sv_us.trans ?_; exact rfl) | with_reducible assumption | with_reducible refine (sv_un (by omega)).trans ?_)) rfl ?_
  refine v_getf 1 (ci := 1) (C := RX3) (T := TX3) (N := 10) rfl iwX12_cell_X3 (Nat.le_of_ble_eq_true rfl) (by decide +kernel) dX12_cell_4 (by repeat (first | (with_reducible refine sv_us.trans ?_; exact rfl) | with_reducible assumption | with_reducible refine (sv_un (by omega)).trans ?_)) rfl ?_
  refine v_bipush (v := 16) dX12_cell_7 (by decide) ?_
  refine v_icmp_lt (tgt := 22) dX12_cell_9 (by decide) (fun c_9 => ?_) (fun c_9 => ?_)
  · refine v_aload_n dX12_cell_22 rfl 0 rfl ?_
    refine v_getf 0 (ci := 10) (C := RX12) (T := TX12) (N := 13) rfl iwX12_cell_X12 (Nat.le_of_ble_eq_true rfl) (by decide +kernel) dX12_cell_23 (by repeat (first | (with_reducible refine sv_us.trans ?_; exact rfl) | with_reducible assumption | with_reducible refine (sv_un (by omega)).trans ?_)) rfl ?_
    refine v_dup dX12_cell_26 rfl ?_
    refine v_getf 1 (ci := 1) (C := RX3) (T := TX3) (N := 10) rfl iwX12_cell_X3 (Nat.le_of_ble_eq_true rfl) (by decide +kernel) dX12_cell_27 (by repeat (first | (with_reducible refine sv_us.trans ?_; exact rfl) | with_reducible assumption | with_reducible refine (sv_un (by omega)).trans ?_)) rfl ?_
    refine v_iconst (v := 1) dX12_cell_30 (by decide) ?_
    refine v_iadd dX12_cell_31 ?_
    refine v_putf 1 (fs' := [_, _, _, _, _, _, _, _, _, _]) (ci := 1) (C := RX3) (T := TX3) (N := 10) (ty := .int) rfl iwX12_cell_X3 tyX3 tyX3_ok nmX3 (Nat.le_of_ble_eq_true rfl) (by decide +kernel) rfl rfl dX12_cell_32 rfl rfl (by repeat (first | (with_reducible refine sv_us.trans ?_; exact rfl) | with_reducible assumption | with_reducible refine (sv_un (by omega)).trans ?_)) (Nat.le_of_ble_eq_true rfl) rfl ?_
    refine v_aload_n dX12_cell_35 rfl 0 rfl ?_
    refine v_getf 0 (ci := 10) (C := RX12) (T := TX12) (N := 13) rfl iwX12_cell_X12 (Nat.le_of_ble_eq_true rfl) (by decide +kernel) dX12_cell_36 (by repeat (first | (with_reducible refine sv_us.trans ?_; exact rfl) | with_reducible assumption | with_reducible refine (sv_un (by omega)).trans ?_)) rfl ?_
    refine v_getf 1 (ci := 1) (C := RX3) (T := TX3) (N := 10) rfl iwX12_cell_X3 (Nat.le_of_ble_eq_true rfl) (by decide +kernel) dX12_cell_39 (by repeat (first | (with_reducible refine sv_us.trans ?_; exact rfl) | with_reducible assumption | with_reducible refine (sv_un (by omega)).trans ?_)) rfl ?_
    refine v_iconst (v := 1) dX12_cell_42 (by decide) ?_
    refine v_isub dX12_cell_43 ?_
    exact v_xret (v_iret rfl dX12_cell_44 (Nat.le_of_ble_eq_true rfl) (Nat.le_of_ble_eq_true rfl) rfl ⟨c_9, rfl, rfl, rfl⟩)
  · exact v_throw (ik := 108) (is := 110) (ic := 112) (cls := "java/lang/IllegalStateException") (text := "no more cells") (names := ["java/lang/RuntimeException", "java/lang/Exception"]) hl0 rfl (by decide +kernel) (by decide +kernel) (by decide +kernel) (by decide +kernel) (by decide +kernel) (by decide +kernel) (by decide +kernel) sv_bwI (by decide +kernel) dX12_cell_12 dX12_cell_15 dX12_cell_16 dX12_cell_18 dX12_cell_21 rfl (Nat.le_of_ble_eq_true rfl) (Nat.le_of_ble_eq_true rfl) (Nat.le_of_ble_eq_true rfl) (Nat.le_of_ble_eq_true rfl) (fun z9 hz9 => ⟨c_9, rfl, rfl⟩)
