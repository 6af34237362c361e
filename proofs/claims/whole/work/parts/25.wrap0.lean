theorem dL_cell__0 : decode cL_cell_ 0 = .ok (.aload_n 1, 1) := by decide +kernel
theorem dL_cell__1 : decode cL_cell_ 1 = .ok (.iconst 0, 1) := by decide +kernel
theorem dL_cell__2 : decode cL_cell_ 2 = .ok (.aload_n 0, 1) := by decide +kernel
theorem dL_cell__3 : decode cL_cell_ 3 = .ok (.invokevirtual 7, 3) := by decide +kernel
theorem dL_cell__6 : decode cL_cell_ 6 = .ok (.i2l, 1) := by decide +kernel
theorem dL_cell__7 : decode cL_cell_ 7 = .ok (.lastore, 1) := by decide +kernel
theorem dL_cell__8 : decode cL_cell_ 8 = .ok (.goto 6, 3) := by decide +kernel
theorem dL_cell__11 : decode cL_cell_ 11 = .ok (.astore_n 2, 1) := by decide +kernel
theorem dL_cell__12 : decode cL_cell_ 12 = .ok (.iconst 1, 1) := by decide +kernel
theorem dL_cell__13 : decode cL_cell_ 13 = .ok (.ireturn, 1) := by decide +kernel
theorem dL_cell__14 : decode cL_cell_ 14 = .ok (.iconst 0, 1) := by decide +kernel
theorem dL_cell__15 : decode cL_cell_ 15 = .ok (.ireturn, 1) := by decide +kernel
theorem dL_polygon_0 : decode cL_polygon 0 = .ok (.aload_n 3, 1) := by decide +kernel
theorem dL_polygon_1 : decode cL_polygon 1 = .ok (.iconst 0, 1) := by decide +kernel
theorem dL_polygon_2 : decode cL_polygon 2 = .ok (.aload_n 0, 1) := by decide +kernel
theorem dL_polygon_3 : decode cL_polygon 3 = .ok (.iload_n 1, 1) := by decide +kernel
theorem dL_polygon_4 : decode cL_polygon 4 = .ok (.iload_n 2, 1) := by decide +kernel
theorem dL_polygon_5 : decode cL_polygon 5 = .ok (.invokevirtual 15, 3) := by decide +kernel
theorem dL_polygon_8 : decode cL_polygon 8 = .ok (.i2l, 1) := by decide +kernel
theorem dL_polygon_9 : decode cL_polygon 9 = .ok (.lastore, 1) := by decide +kernel
theorem dL_polygon_10 : decode cL_polygon 10 = .ok (.goto 11, 3) := by decide +kernel
theorem dL_polygon_13 : decode cL_polygon 13 = .ok (.astore 4, 2) := by decide +kernel
theorem dL_polygon_15 : decode cL_polygon 15 = .ok (.iconst 1, 1) := by decide +kernel
theorem dL_polygon_16 : decode cL_polygon 16 = .ok (.ireturn, 1) := by decide +kernel
theorem dL_polygon_17 : decode cL_polygon 17 = .ok (.astore 4, 2) := by decide +kernel
theorem dL_polygon_19 : decode cL_polygon 19 = .ok (.iconst 2, 1) := by decide +kernel
theorem dL_polygon_20 : decode cL_polygon 20 = .ok (.ireturn, 1) := by decide +kernel
theorem dL_polygon_21 : decode cL_polygon 21 = .ok (.iconst 0, 1) := by decide +kernel
theorem dL_polygon_22 : decode cL_polygon 22 = .ok (.ireturn, 1) := by decide +kernel
theorem dL_corner_0 : decode cL_corner 0 = .ok (.aload 6, 2) := by decide +kernel
theorem dL_corner_2 : decode cL_corner 2 = .ok (.iconst 0, 1) := by decide +kernel
theorem dL_corner_3 : decode cL_corner 3 = .ok (.aload_n 0, 1) := by decide +kernel
theorem dL_corner_4 : decode cL_corner 4 = .ok (.iload_n 1, 1) := by decide +kernel
theorem dL_corner_5 : decode cL_corner 5 = .ok (.lload_n 2, 1) := by decide +kernel
theorem dL_corner_6 : decode cL_corner 6 = .ok (.lload 4, 2) := by decide +kernel
theorem dL_corner_8 : decode cL_corner 8 = .ok (.invokevirtual 21, 3) := by decide +kernel
theorem dL_corner_11 : decode cL_corner 11 = .ok (.ifCond .eq 7, 3) := by decide +kernel
theorem dL_corner_14 : decode cL_corner 14 = .ok (.lconst 1, 1) := by decide +kernel
theorem dL_corner_15 : decode cL_corner 15 = .ok (.goto 4, 3) := by decide +kernel
theorem dL_corner_18 : decode cL_corner 18 = .ok (.lconst 0, 1) := by decide +kernel
theorem dL_corner_19 : decode cL_corner 19 = .ok (.lastore, 1) := by decide +kernel
theorem dL_corner_20 : decode cL_corner 20 = .ok (.goto 15, 3) := by decide +kernel
theorem dL_corner_23 : decode cL_corner 23 = .ok (.astore 7, 2) := by decide +kernel
theorem dL_corner_25 : decode cL_corner 25 = .ok (.iconst 1, 1) := by decide +kernel
theorem dL_corner_26 : decode cL_corner 26 = .ok (.ireturn, 1) := by decide +kernel
theorem dL_corner_27 : decode cL_corner 27 = .ok (.astore 7, 2) := by decide +kernel
theorem dL_corner_29 : decode cL_corner 29 = .ok (.iconst 2, 1) := by decide +kernel
theorem dL_corner_30 : decode cL_corner 30 = .ok (.ireturn, 1) := by decide +kernel
theorem dL_corner_31 : decode cL_corner 31 = .ok (.astore 7, 2) := by decide +kernel
theorem dL_corner_33 : decode cL_corner 33 = .ok (.iconst 3, 1) := by decide +kernel
theorem dL_corner_34 : decode cL_corner 34 = .ok (.ireturn, 1) := by decide +kernel
theorem dL_corner_35 : decode cL_corner 35 = .ok (.iconst 0, 1) := by decide +kernel
theorem dL_corner_36 : decode cL_corner 36 = .ok (.ireturn, 1) := by decide +kernel
theorem dL_voltage_0 : decode cL_voltage 0 = .ok (.aload 4, 2) := by decide +kernel
theorem dL_voltage_2 : decode cL_voltage 2 = .ok (.iconst 0, 1) := by decide +kernel
theorem dL_voltage_3 : decode cL_voltage 3 = .ok (.aload_n 0, 1) := by decide +kernel
theorem dL_voltage_4 : decode cL_voltage 4 = .ok (.iload_n 1, 1) := by decide +kernel
theorem dL_voltage_5 : decode cL_voltage 5 = .ok (.lload_n 2, 1) := by decide +kernel
theorem dL_voltage_6 : decode cL_voltage 6 = .ok (.invokevirtual 27, 3) := by decide +kernel
theorem dL_voltage_9 : decode cL_voltage 9 = .ok (.ifCond .eq 7, 3) := by decide +kernel
theorem dL_voltage_12 : decode cL_voltage 12 = .ok (.lconst 1, 1) := by decide +kernel
theorem dL_voltage_13 : decode cL_voltage 13 = .ok (.goto 4, 3) := by decide +kernel
theorem dL_voltage_16 : decode cL_voltage 16 = .ok (.lconst 0, 1) := by decide +kernel
theorem dL_voltage_17 : decode cL_voltage 17 = .ok (.lastore, 1) := by decide +kernel
theorem dL_voltage_18 : decode cL_voltage 18 = .ok (.goto 11, 3) := by decide +kernel
theorem dL_voltage_21 : decode cL_voltage 21 = .ok (.astore 5, 2) := by decide +kernel
theorem dL_voltage_23 : decode cL_voltage 23 = .ok (.iconst 1, 1) := by decide +kernel
theorem dL_voltage_24 : decode cL_voltage 24 = .ok (.ireturn, 1) := by decide +kernel
theorem dL_voltage_25 : decode cL_voltage 25 = .ok (.astore 5, 2) := by decide +kernel
theorem dL_voltage_27 : decode cL_voltage 27 = .ok (.iconst 2, 1) := by decide +kernel
theorem dL_voltage_28 : decode cL_voltage 28 = .ok (.ireturn, 1) := by decide +kernel
theorem dL_voltage_29 : decode cL_voltage 29 = .ok (.iconst 0, 1) := by decide +kernel
theorem dL_voltage_30 : decode cL_voltage 30 = .ok (.ireturn, 1) := by decide +kernel
theorem dL_place_0 : decode cL_place 0 = .ok (.aload 8, 2) := by decide +kernel
theorem dL_place_2 : decode cL_place 2 = .ok (.iconst 0, 1) := by decide +kernel
theorem dL_place_3 : decode cL_place 3 = .ok (.aload_n 0, 1) := by decide +kernel
theorem dL_place_4 : decode cL_place 4 = .ok (.iload_n 1, 1) := by decide +kernel
theorem dL_place_5 : decode cL_place 5 = .ok (.iload_n 2, 1) := by decide +kernel
theorem dL_place_6 : decode cL_place 6 = .ok (.lload_n 3, 1) := by decide +kernel
theorem dL_place_7 : decode cL_place 7 = .ok (.lload 5, 2) := by decide +kernel
theorem dL_place_9 : decode cL_place 9 = .ok (.iload 7, 2) := by decide +kernel
theorem dL_place_11 : decode cL_place 11 = .ok (.invokevirtual 31, 3) := by decide +kernel
theorem dL_place_14 : decode cL_place 14 = .ok (.i2l, 1) := by decide +kernel
theorem dL_place_15 : decode cL_place 15 = .ok (.lastore, 1) := by decide +kernel
theorem dL_place_16 : decode cL_place 16 = .ok (.goto 15, 3) := by decide +kernel
theorem dL_place_19 : decode cL_place 19 = .ok (.astore 9, 2) := by decide +kernel
theorem dL_place_21 : decode cL_place 21 = .ok (.iconst 1, 1) := by decide +kernel
theorem dL_place_22 : decode cL_place 22 = .ok (.ireturn, 1) := by decide +kernel
theorem dL_place_23 : decode cL_place 23 = .ok (.astore 9, 2) := by decide +kernel
theorem dL_place_25 : decode cL_place 25 = .ok (.iconst 2, 1) := by decide +kernel
theorem dL_place_26 : decode cL_place 26 = .ok (.ireturn, 1) := by decide +kernel
theorem dL_place_27 : decode cL_place 27 = .ok (.astore 9, 2) := by decide +kernel
theorem dL_place_29 : decode cL_place 29 = .ok (.iconst 3, 1) := by decide +kernel
theorem dL_place_30 : decode cL_place 30 = .ok (.ireturn, 1) := by decide +kernel
theorem dL_place_31 : decode cL_place 31 = .ok (.iconst 0, 1) := by decide +kernel
theorem dL_place_32 : decode cL_place 32 = .ok (.ireturn, 1) := by decide +kernel
theorem dL_run_0 : decode cL_run 0 = .ok (.aload 4, 2) := by decide +kernel
theorem dL_run_2 : decode cL_run 2 = .ok (.iconst 0, 1) := by decide +kernel
theorem dL_run_3 : decode cL_run 3 = .ok (.aload_n 0, 1) := by decide +kernel
theorem dL_run_4 : decode cL_run 4 = .ok (.iload_n 1, 1) := by decide +kernel
theorem dL_run_5 : decode cL_run 5 = .ok (.iload_n 2, 1) := by decide +kernel
theorem dL_run_6 : decode cL_run 6 = .ok (.iload_n 3, 1) := by decide +kernel
theorem dL_run_7 : decode cL_run 7 = .ok (.invokevirtual 35, 3) := by decide +kernel
theorem dL_run_10 : decode cL_run 10 = .ok (.i2l, 1) := by decide +kernel
theorem dL_run_11 : decode cL_run 11 = .ok (.lastore, 1) := by decide +kernel
theorem dL_run_12 : decode cL_run 12 = .ok (.goto 11, 3) := by decide +kernel
theorem dL_run_15 : decode cL_run 15 = .ok (.astore 5, 2) := by decide +kernel
theorem dL_run_17 : decode cL_run 17 = .ok (.iconst 1, 1) := by decide +kernel
theorem dL_run_18 : decode cL_run 18 = .ok (.ireturn, 1) := by decide +kernel
theorem dL_run_19 : decode cL_run 19 = .ok (.astore 5, 2) := by decide +kernel
theorem dL_run_21 : decode cL_run 21 = .ok (.iconst 2, 1) := by decide +kernel
theorem dL_run_22 : decode cL_run 22 = .ok (.ireturn, 1) := by decide +kernel
theorem dL_run_23 : decode cL_run 23 = .ok (.iconst 0, 1) := by decide +kernel
theorem dL_run_24 : decode cL_run 24 = .ok (.ireturn, 1) := by decide +kernel
theorem dL_violation_0 : decode cL_violation 0 = .ok (.aload_n 3, 1) := by decide +kernel
theorem dL_violation_1 : decode cL_violation 1 = .ok (.iconst 0, 1) := by decide +kernel
theorem dL_violation_2 : decode cL_violation 2 = .ok (.aload_n 0, 1) := by decide +kernel
theorem dL_violation_3 : decode cL_violation 3 = .ok (.iload_n 1, 1) := by decide +kernel
theorem dL_violation_4 : decode cL_violation 4 = .ok (.iload_n 2, 1) := by decide +kernel
theorem dL_violation_5 : decode cL_violation 5 = .ok (.invokevirtual 41, 3) := by decide +kernel
theorem dL_violation_8 : decode cL_violation 8 = .ok (.lastore, 1) := by decide +kernel
theorem dL_violation_9 : decode cL_violation 9 = .ok (.goto 7, 3) := by decide +kernel
theorem dL_violation_12 : decode cL_violation 12 = .ok (.astore 4, 2) := by decide +kernel
theorem dL_violation_14 : decode cL_violation 14 = .ok (.iconst 1, 1) := by decide +kernel
theorem dL_violation_15 : decode cL_violation 15 = .ok (.ireturn, 1) := by decide +kernel
theorem dL_violation_16 : decode cL_violation 16 = .ok (.iconst 0, 1) := by decide +kernel
theorem dL_violation_17 : decode cL_violation 17 = .ok (.ireturn, 1) := by decide +kernel
theorem dL_cellOf_0 : decode cL_cellOf 0 = .ok (.aload_n 2, 1) := by decide +kernel
theorem dL_cellOf_1 : decode cL_cellOf 1 = .ok (.iconst 0, 1) := by decide +kernel
theorem dL_cellOf_2 : decode cL_cellOf 2 = .ok (.aload_n 0, 1) := by decide +kernel
theorem dL_cellOf_3 : decode cL_cellOf 3 = .ok (.iload_n 1, 1) := by decide +kernel
theorem dL_cellOf_4 : decode cL_cellOf 4 = .ok (.invokevirtual 45, 3) := by decide +kernel
theorem dL_cellOf_7 : decode cL_cellOf 7 = .ok (.i2l, 1) := by decide +kernel
theorem dL_cellOf_8 : decode cL_cellOf 8 = .ok (.lastore, 1) := by decide +kernel
theorem dL_cellOf_9 : decode cL_cellOf 9 = .ok (.goto 6, 3) := by decide +kernel
theorem dL_cellOf_12 : decode cL_cellOf 12 = .ok (.astore_n 3, 1) := by decide +kernel
theorem dL_cellOf_13 : decode cL_cellOf 13 = .ok (.iconst 1, 1) := by decide +kernel
theorem dL_cellOf_14 : decode cL_cellOf 14 = .ok (.ireturn, 1) := by decide +kernel
theorem dL_cellOf_15 : decode cL_cellOf 15 = .ok (.iconst 0, 1) := by decide +kernel
theorem dL_cellOf_16 : decode cL_cellOf 16 = .ok (.ireturn, 1) := by decide +kernel
theorem dL_waive_0 : decode cL_waive 0 = .ok (.aload_n 2, 1) := by decide +kernel
theorem dL_waive_1 : decode cL_waive 1 = .ok (.iconst 0, 1) := by decide +kernel
theorem dL_waive_2 : decode cL_waive 2 = .ok (.aload_n 0, 1) := by decide +kernel
theorem dL_waive_3 : decode cL_waive 3 = .ok (.iload_n 1, 1) := by decide +kernel
theorem dL_waive_4 : decode cL_waive 4 = .ok (.invokevirtual 49, 3) := by decide +kernel
theorem dL_waive_7 : decode cL_waive 7 = .ok (.ifCond .eq 7, 3) := by decide +kernel
theorem dL_waive_10 : decode cL_waive 10 = .ok (.lconst 1, 1) := by decide +kernel
theorem dL_waive_11 : decode cL_waive 11 = .ok (.goto 4, 3) := by decide +kernel
theorem dL_waive_14 : decode cL_waive 14 = .ok (.lconst 0, 1) := by decide +kernel
theorem dL_waive_15 : decode cL_waive 15 = .ok (.lastore, 1) := by decide +kernel
theorem dL_waive_16 : decode cL_waive 16 = .ok (.goto 9, 3) := by decide +kernel
theorem dL_waive_19 : decode cL_waive 19 = .ok (.astore_n 3, 1) := by decide +kernel
theorem dL_waive_20 : decode cL_waive 20 = .ok (.iconst 1, 1) := by decide +kernel
theorem dL_waive_21 : decode cL_waive 21 = .ok (.ireturn, 1) := by decide +kernel
theorem dL_waive_22 : decode cL_waive 22 = .ok (.astore_n 3, 1) := by decide +kernel
theorem dL_waive_23 : decode cL_waive 23 = .ok (.iconst 2, 1) := by decide +kernel
theorem dL_waive_24 : decode cL_waive 24 = .ok (.ireturn, 1) := by decide +kernel
theorem dL_waive_25 : decode cL_waive 25 = .ok (.iconst 0, 1) := by decide +kernel
theorem dL_waive_26 : decode cL_waive 26 = .ok (.ireturn, 1) := by decide +kernel
theorem dL_changed_0 : decode cL_changed 0 = .ok (.aload 9, 2) := by decide +kernel
theorem dL_changed_2 : decode cL_changed 2 = .ok (.iconst 0, 1) := by decide +kernel
theorem dL_changed_3 : decode cL_changed 3 = .ok (.aload_n 0, 1) := by decide +kernel
theorem dL_changed_4 : decode cL_changed 4 = .ok (.lload_n 1, 1) := by decide +kernel
theorem dL_changed_5 : decode cL_changed 5 = .ok (.lload_n 3, 1) := by decide +kernel
theorem dL_changed_6 : decode cL_changed 6 = .ok (.lload 5, 2) := by decide +kernel
theorem dL_changed_8 : decode cL_changed 8 = .ok (.lload 7, 2) := by decide +kernel
theorem dL_changed_10 : decode cL_changed 10 = .ok (.invokevirtual 53, 3) := by decide +kernel
theorem dL_changed_13 : decode cL_changed 13 = .ok (.i2l, 1) := by decide +kernel
theorem dL_changed_14 : decode cL_changed 14 = .ok (.lastore, 1) := by decide +kernel
theorem dL_changed_15 : decode cL_changed 15 = .ok (.goto 11, 3) := by decide +kernel
theorem dL_changed_18 : decode cL_changed 18 = .ok (.astore 10, 2) := by decide +kernel
theorem dL_changed_20 : decode cL_changed 20 = .ok (.iconst 1, 1) := by decide +kernel
theorem dL_changed_21 : decode cL_changed 21 = .ok (.ireturn, 1) := by decide +kernel
theorem dL_changed_22 : decode cL_changed 22 = .ok (.astore 10, 2) := by decide +kernel
theorem dL_changed_24 : decode cL_changed 24 = .ok (.iconst 2, 1) := by decide +kernel
theorem dL_changed_25 : decode cL_changed 25 = .ok (.ireturn, 1) := by decide +kernel
theorem dL_changed_26 : decode cL_changed 26 = .ok (.iconst 0, 1) := by decide +kernel
theorem dL_changed_27 : decode cL_changed 27 = .ok (.ireturn, 1) := by decide +kernel
theorem dL_same_0 : decode cL_same 0 = .ok (.aload_n 3, 1) := by decide +kernel
theorem dL_same_1 : decode cL_same 1 = .ok (.iconst 0, 1) := by decide +kernel
theorem dL_same_2 : decode cL_same 2 = .ok (.aload_n 0, 1) := by decide +kernel
theorem dL_same_3 : decode cL_same 3 = .ok (.iload_n 1, 1) := by decide +kernel
theorem dL_same_4 : decode cL_same 4 = .ok (.iload_n 2, 1) := by decide +kernel
theorem dL_same_5 : decode cL_same 5 = .ok (.invokevirtual 57, 3) := by decide +kernel
theorem dL_same_8 : decode cL_same 8 = .ok (.ifCond .eq 7, 3) := by decide +kernel
theorem dL_same_11 : decode cL_same 11 = .ok (.lconst 1, 1) := by decide +kernel
theorem dL_same_12 : decode cL_same 12 = .ok (.goto 4, 3) := by decide +kernel
theorem dL_same_15 : decode cL_same 15 = .ok (.lconst 0, 1) := by decide +kernel
theorem dL_same_16 : decode cL_same 16 = .ok (.lastore, 1) := by decide +kernel
theorem dL_same_17 : decode cL_same 17 = .ok (.goto 11, 3) := by decide +kernel
theorem dL_same_20 : decode cL_same 20 = .ok (.astore 4, 2) := by decide +kernel
theorem dL_same_22 : decode cL_same 22 = .ok (.iconst 1, 1) := by decide +kernel
theorem dL_same_23 : decode cL_same 23 = .ok (.ireturn, 1) := by decide +kernel
theorem dL_same_24 : decode cL_same 24 = .ok (.astore 4, 2) := by decide +kernel
theorem dL_same_26 : decode cL_same 26 = .ok (.iconst 2, 1) := by decide +kernel
theorem dL_same_27 : decode cL_same 27 = .ok (.ireturn, 1) := by decide +kernel
theorem dL_same_28 : decode cL_same 28 = .ok (.iconst 0, 1) := by decide +kernel
theorem dL_same_29 : decode cL_same 29 = .ok (.ireturn, 1) := by decide +kernel
theorem dL_count_0 : decode cL_count 0 = .ok (.aload_n 2, 1) := by decide +kernel
theorem dL_count_1 : decode cL_count 1 = .ok (.iconst 0, 1) := by decide +kernel
theorem dL_count_2 : decode cL_count 2 = .ok (.aload_n 0, 1) := by decide +kernel
theorem dL_count_3 : decode cL_count 3 = .ok (.iload_n 1, 1) := by decide +kernel
theorem dL_count_4 : decode cL_count 4 = .ok (.invokevirtual 61, 3) := by decide +kernel
theorem dL_count_7 : decode cL_count 7 = .ok (.i2l, 1) := by decide +kernel
theorem dL_count_8 : decode cL_count 8 = .ok (.lastore, 1) := by decide +kernel
theorem dL_count_9 : decode cL_count 9 = .ok (.goto 6, 3) := by decide +kernel
theorem dL_count_12 : decode cL_count 12 = .ok (.astore_n 3, 1) := by decide +kernel
theorem dL_count_13 : decode cL_count 13 = .ok (.iconst 1, 1) := by decide +kernel
theorem dL_count_14 : decode cL_count 14 = .ok (.ireturn, 1) := by decide +kernel
theorem dL_count_15 : decode cL_count 15 = .ok (.iconst 0, 1) := by decide +kernel
theorem dL_count_16 : decode cL_count 16 = .ok (.ireturn, 1) := by decide +kernel
theorem dL_occurrences_0 : decode cL_occurrences 0 = .ok (.aload_n 2, 1) := by decide +kernel
theorem dL_occurrences_1 : decode cL_occurrences 1 = .ok (.iconst 0, 1) := by decide +kernel
theorem dL_occurrences_2 : decode cL_occurrences 2 = .ok (.aload_n 0, 1) := by decide +kernel
theorem dL_occurrences_3 : decode cL_occurrences 3 = .ok (.iload_n 1, 1) := by decide +kernel
theorem dL_occurrences_4 : decode cL_occurrences 4 = .ok (.invokevirtual 64, 3) := by decide +kernel
theorem dL_occurrences_7 : decode cL_occurrences 7 = .ok (.i2l, 1) := by decide +kernel
theorem dL_occurrences_8 : decode cL_occurrences 8 = .ok (.lastore, 1) := by decide +kernel
theorem dL_occurrences_9 : decode cL_occurrences 9 = .ok (.goto 9, 3) := by decide +kernel
theorem dL_occurrences_12 : decode cL_occurrences 12 = .ok (.astore_n 3, 1) := by decide +kernel
theorem dL_occurrences_13 : decode cL_occurrences 13 = .ok (.iconst 1, 1) := by decide +kernel
theorem dL_occurrences_14 : decode cL_occurrences 14 = .ok (.ireturn, 1) := by decide +kernel
theorem dL_occurrences_15 : decode cL_occurrences 15 = .ok (.astore_n 3, 1) := by decide +kernel
theorem dL_occurrences_16 : decode cL_occurrences 16 = .ok (.iconst 2, 1) := by decide +kernel
theorem dL_occurrences_17 : decode cL_occurrences 17 = .ok (.ireturn, 1) := by decide +kernel
theorem dL_occurrences_18 : decode cL_occurrences 18 = .ok (.iconst 0, 1) := by decide +kernel
theorem dL_occurrences_19 : decode cL_occurrences 19 = .ok (.ireturn, 1) := by decide +kernel
