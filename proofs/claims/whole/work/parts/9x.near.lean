theorem iwX8_areMetHere_X8 : ∀ w ∈ wsX80, w ∈ wsX8_areMetHere := by decide +kernel
theorem iwX7_isBetween_X7 : ∀ w ∈ wsX70, w ∈ wsX7_isBetween := by decide +kernel
theorem iwX1_areOnBothLayers_X1 : ∀ w ∈ wsX10, w ∈ wsX1_areOnBothLayers := by decide +kernel
theorem iwX1_areOnBothLayers_X5 : ∀ w ∈ wsX50, w ∈ wsX1_areOnBothLayers := by decide +kernel
theorem iwX8_gap_X8 : ∀ w ∈ wsX80, w ∈ wsX8_gap := by decide +kernel
theorem iwX1_areNear_X1 : ∀ w ∈ wsX10, w ∈ wsX1_areNear := by decide +kernel
theorem iwX1_areNear_X5 : ∀ w ∈ wsX50, w ∈ wsX1_areNear := by decide +kernel
theorem iwX1_areNear_X7 : ∀ w ∈ wsX70, w ∈ wsX1_areNear := by decide +kernel
set_option maxRecDepth 20000 in
theorem ggX1_areOnBothLayers_X8_polygonOf : GoodIn wsX1_areOnBothLayers wsX8_polygonOf := goodIn_r _ [8, 9, 10, 11, 35, 36, 37, 38, 39, 40, 41, 42, 43, 44, 45, 46, 47, 48, 49, 50, 51, 52, 53, 54, 55, 56, 57, 58] (by decide +kernel) (by decide +kernel)
set_option maxRecDepth 20000 in
theorem gX1_areOnBothLayers_X8_polygonOf : GoodIn wsX1_areOnBothLayers (wsV RX1 125 RX8 yX8_polygonOf wsX8_polygonOf) := goodIn_app (goodIn_of _ (by decide +kernel)) ggX1_areOnBothLayers_X8_polygonOf
set_option maxRecDepth 20000 in
theorem ggX1_areOnBothLayers_X7_isBetween : GoodIn wsX1_areOnBothLayers wsX7_isBetween := goodIn_r _ [16, 17, 18, 59, 60, 61, 62, 63, 64, 65, 66] (by decide +kernel) (by decide +kernel)
set_option maxRecDepth 20000 in
theorem gX1_areOnBothLayers_X7_isBetween : GoodIn wsX1_areOnBothLayers (wsV RX1 241 RX7 yX7_isBetween wsX7_isBetween) := goodIn_app (goodIn_of _ (by decide +kernel)) ggX1_areOnBothLayers_X7_isBetween
theorem dX1_areOnBothLayers_0 : decode cX1_areOnBothLayers 0 = .ok (.aload_n 0, 1) := by decide +kernel
theorem dX1_areOnBothLayers_1 : decode cX1_areOnBothLayers 1 = .ok (.getfield 41, 3) := by decide +kernel
theorem dX1_areOnBothLayers_4 : decode cX1_areOnBothLayers 4 = .ok (.aload_n 0, 1) := by decide +kernel
theorem dX1_areOnBothLayers_5 : decode cX1_areOnBothLayers 5 = .ok (.getfield 30, 3) := by decide +kernel
theorem dX1_areOnBothLayers_8 : decode cX1_areOnBothLayers 8 = .ok (.iload_n 1, 1) := by decide +kernel
theorem dX1_areOnBothLayers_9 : decode cX1_areOnBothLayers 9 = .ok (.invokevirtual 125, 3) := by decide +kernel
theorem dX1_areOnBothLayers_12 : decode cX1_areOnBothLayers 12 = .ok (.getfield 129, 3) := by decide +kernel
theorem dX1_areOnBothLayers_15 : decode cX1_areOnBothLayers 15 = .ok (.aload_n 0, 1) := by decide +kernel
theorem dX1_areOnBothLayers_16 : decode cX1_areOnBothLayers 16 = .ok (.getfield 30, 3) := by decide +kernel
theorem dX1_areOnBothLayers_19 : decode cX1_areOnBothLayers 19 = .ok (.iload_n 2, 1) := by decide +kernel
theorem dX1_areOnBothLayers_20 : decode cX1_areOnBothLayers 20 = .ok (.invokevirtual 125, 3) := by decide +kernel
theorem dX1_areOnBothLayers_23 : decode cX1_areOnBothLayers 23 = .ok (.getfield 129, 3) := by decide +kernel
theorem dX1_areOnBothLayers_26 : decode cX1_areOnBothLayers 26 = .ok (.invokevirtual 241, 3) := by decide +kernel
theorem dX1_areOnBothLayers_29 : decode cX1_areOnBothLayers 29 = .ok (.ireturn, 1) := by decide +kernel
set_option maxRecDepth 20000 in
theorem ggX1_areNear_X1_areOnBothLayers : GoodIn wsX1_areNear wsX1_areOnBothLayers := goodIn_r _ [14, 2, 1, 15, 16, 17, 18, 19, 20, 21, 22, 23, 24, 25, 26, 27, 28, 29, 30, 43, 44, 45, 46, 47, 48, 57, 58, 59, 60, 61, 62, 63, 64, 65, 66, 67, 68, 69, 70, 71, 72, 73, 74, 75, 76, 77, 78, 79, 80, 81, 82, 83, 84, 85, 86, 87, 88, 89, 90, 49, 50, 51, 52, 53, 54, 55, 56] (by decide +kernel) (by decide +kernel)
set_option maxRecDepth 20000 in
theorem gX1_areNear_X1_areOnBothLayers : GoodIn wsX1_areNear (wsV RX1 232 RX1 yX1_areOnBothLayers wsX1_areOnBothLayers) := goodIn_app (goodIn_of _ (by decide +kernel)) ggX1_areNear_X1_areOnBothLayers
set_option maxRecDepth 20000 in
theorem ggX1_areNear_X8_boxesAreNear : GoodIn wsX1_areNear wsX8_boxesAreNear := goodIn_r _ [34, 35, 36, 37, 19, 38, 39, 40, 41, 8, 42, 67, 68, 69, 70, 71, 72, 73, 74, 75, 76, 77, 78, 79, 80] (by decide +kernel) (by decide +kernel)
set_option maxRecDepth 20000 in
theorem gX1_areNear_X8_boxesAreNear : GoodIn wsX1_areNear (wsV RX1 244 RX8 yX8_boxesAreNear wsX8_boxesAreNear) := goodIn_app (goodIn_of _ (by decide +kernel)) ggX1_areNear_X8_boxesAreNear
set_option maxRecDepth 20000 in
theorem ggX1_areNear_X8_polygonOf : GoodIn wsX1_areNear wsX8_polygonOf := goodIn_r _ [20, 21, 22, 23, 67, 68, 69, 70, 71, 72, 73, 74, 75, 76, 77, 78, 79, 80, 81, 82, 83, 84, 85, 86, 87, 88, 89, 90] (by decide +kernel) (by decide +kernel)
set_option maxRecDepth 20000 in
theorem gX1_areNear_X8_polygonOf : GoodIn wsX1_areNear (wsV RX1 125 RX8 yX8_polygonOf wsX8_polygonOf) := goodIn_app (goodIn_of _ (by decide +kernel)) ggX1_areNear_X8_polygonOf
theorem dX1_areNear_0 : decode cX1_areNear 0 = .ok (.aload_n 0, 1) := by decide +kernel
theorem dX1_areNear_1 : decode cX1_areNear 1 = .ok (.iload_n 1, 1) := by decide +kernel
theorem dX1_areNear_2 : decode cX1_areNear 2 = .ok (.iload_n 2, 1) := by decide +kernel
theorem dX1_areNear_3 : decode cX1_areNear 3 = .ok (.invokevirtual 232, 3) := by decide +kernel
theorem dX1_areNear_6 : decode cX1_areNear 6 = .ok (.ifCond .eq 22, 3) := by decide +kernel
theorem dX1_areNear_9 : decode cX1_areNear 9 = .ok (.aload_n 0, 1) := by decide +kernel
theorem dX1_areNear_10 : decode cX1_areNear 10 = .ok (.getfield 30, 3) := by decide +kernel
theorem dX1_areNear_13 : decode cX1_areNear 13 = .ok (.iload_n 1, 1) := by decide +kernel
theorem dX1_areNear_14 : decode cX1_areNear 14 = .ok (.iload_n 2, 1) := by decide +kernel
theorem dX1_areNear_15 : decode cX1_areNear 15 = .ok (.aload_n 0, 1) := by decide +kernel
theorem dX1_areNear_16 : decode cX1_areNear 16 = .ok (.getfield 41, 3) := by decide +kernel
theorem dX1_areNear_19 : decode cX1_areNear 19 = .ok (.getfield 151, 3) := by decide +kernel
theorem dX1_areNear_22 : decode cX1_areNear 22 = .ok (.invokevirtual 244, 3) := by decide +kernel
theorem dX1_areNear_25 : decode cX1_areNear 25 = .ok (.ifCond .ne 5, 3) := by decide +kernel
theorem dX1_areNear_28 : decode cX1_areNear 28 = .ok (.iconst 0, 1) := by decide +kernel
theorem dX1_areNear_29 : decode cX1_areNear 29 = .ok (.ireturn, 1) := by decide +kernel
theorem dX1_areNear_30 : decode cX1_areNear 30 = .ok (.aload_n 0, 1) := by decide +kernel
theorem dX1_areNear_31 : decode cX1_areNear 31 = .ok (.getfield 30, 3) := by decide +kernel
theorem dX1_areNear_34 : decode cX1_areNear 34 = .ok (.iload_n 1, 1) := by decide +kernel
theorem dX1_areNear_35 : decode cX1_areNear 35 = .ok (.invokevirtual 125, 3) := by decide +kernel
theorem dX1_areNear_38 : decode cX1_areNear 38 = .ok (.getfield 248, 3) := by decide +kernel
theorem dX1_areNear_41 : decode cX1_areNear 41 = .ok (.aload_n 0, 1) := by decide +kernel
theorem dX1_areNear_42 : decode cX1_areNear 42 = .ok (.getfield 30, 3) := by decide +kernel
theorem dX1_areNear_45 : decode cX1_areNear 45 = .ok (.iload_n 2, 1) := by decide +kernel
theorem dX1_areNear_46 : decode cX1_areNear 46 = .ok (.invokevirtual 125, 3) := by decide +kernel
theorem dX1_areNear_49 : decode cX1_areNear 49 = .ok (.getfield 248, 3) := by decide +kernel
theorem dX1_areNear_52 : decode cX1_areNear 52 = .ok (.isub, 1) := by decide +kernel
theorem dX1_areNear_53 : decode cX1_areNear 53 = .ok (.istore_n 3, 1) := by decide +kernel
theorem dX1_areNear_54 : decode cX1_areNear 54 = .ok (.aload_n 0, 1) := by decide +kernel
theorem dX1_areNear_55 : decode cX1_areNear 55 = .ok (.getfield 41, 3) := by decide +kernel
theorem dX1_areNear_58 : decode cX1_areNear 58 = .ok (.getfield 251, 3) := by decide +kernel
theorem dX1_areNear_61 : decode cX1_areNear 61 = .ok (.iconst (-1), 1) := by decide +kernel
theorem dX1_areNear_62 : decode cX1_areNear 62 = .ok (.if_icmp .eq 17, 3) := by decide +kernel
theorem dX1_areNear_65 : decode cX1_areNear 65 = .ok (.iload_n 3, 1) := by decide +kernel
theorem dX1_areNear_66 : decode cX1_areNear 66 = .ok (.invokestatic 252, 3) := by decide +kernel
theorem dX1_areNear_69 : decode cX1_areNear 69 = .ok (.aload_n 0, 1) := by decide +kernel
theorem dX1_areNear_70 : decode cX1_areNear 70 = .ok (.getfield 41, 3) := by decide +kernel
theorem dX1_areNear_73 : decode cX1_areNear 73 = .ok (.getfield 251, 3) := by decide +kernel
theorem dX1_areNear_76 : decode cX1_areNear 76 = .ok (.if_icmp .lt 7, 3) := by decide +kernel
theorem dX1_areNear_79 : decode cX1_areNear 79 = .ok (.iconst 1, 1) := by decide +kernel
theorem dX1_areNear_80 : decode cX1_areNear 80 = .ok (.goto 4, 3) := by decide +kernel
theorem dX1_areNear_83 : decode cX1_areNear 83 = .ok (.iconst 0, 1) := by decide +kernel
theorem dX1_areNear_84 : decode cX1_areNear 84 = .ok (.ireturn, 1) := by decide +kernel
theorem dX7_isBetween_0 : decode cX7_isBetween 0 = .ok (.iload_n 1, 1) := by decide +kernel
theorem dX7_isBetween_1 : decode cX7_isBetween 1 = .ok (.aload_n 0, 1) := by decide +kernel
theorem dX7_isBetween_2 : decode cX7_isBetween 2 = .ok (.getfield 30, 3) := by decide +kernel
theorem dX7_isBetween_5 : decode cX7_isBetween 5 = .ok (.if_icmp .ne 11, 3) := by decide +kernel
theorem dX7_isBetween_8 : decode cX7_isBetween 8 = .ok (.iload_n 2, 1) := by decide +kernel
theorem dX7_isBetween_9 : decode cX7_isBetween 9 = .ok (.aload_n 0, 1) := by decide +kernel
theorem dX7_isBetween_10 : decode cX7_isBetween 10 = .ok (.getfield 33, 3) := by decide +kernel
theorem dX7_isBetween_13 : decode cX7_isBetween 13 = .ok (.if_icmp .eq 19, 3) := by decide +kernel
theorem dX7_isBetween_16 : decode cX7_isBetween 16 = .ok (.iload_n 1, 1) := by decide +kernel
theorem dX7_isBetween_17 : decode cX7_isBetween 17 = .ok (.aload_n 0, 1) := by decide +kernel
theorem dX7_isBetween_18 : decode cX7_isBetween 18 = .ok (.getfield 33, 3) := by decide +kernel
theorem dX7_isBetween_21 : decode cX7_isBetween 21 = .ok (.if_icmp .ne 15, 3) := by decide +kernel
theorem dX7_isBetween_24 : decode cX7_isBetween 24 = .ok (.iload_n 2, 1) := by decide +kernel
theorem dX7_isBetween_25 : decode cX7_isBetween 25 = .ok (.aload_n 0, 1) := by decide +kernel
theorem dX7_isBetween_26 : decode cX7_isBetween 26 = .ok (.getfield 30, 3) := by decide +kernel
theorem dX7_isBetween_29 : decode cX7_isBetween 29 = .ok (.if_icmp .ne 7, 3) := by decide +kernel
theorem dX7_isBetween_32 : decode cX7_isBetween 32 = .ok (.iconst 1, 1) := by decide +kernel
theorem dX7_isBetween_33 : decode cX7_isBetween 33 = .ok (.goto 4, 3) := by decide +kernel
theorem dX7_isBetween_36 : decode cX7_isBetween 36 = .ok (.iconst 0, 1) := by decide +kernel
theorem dX7_isBetween_37 : decode cX7_isBetween 37 = .ok (.ireturn, 1) := by decide +kernel
theorem dX8_areMetHere_0 : decode cX8_areMetHere 0 = .ok (.aload_n 0, 1) := by decide +kernel
theorem dX8_areMetHere_1 : decode cX8_areMetHere 1 = .ok (.getfield 21, 3) := by decide +kernel
theorem dX8_areMetHere_4 : decode cX8_areMetHere 4 = .ok (.iload_n 1, 1) := by decide +kernel
theorem dX8_areMetHere_5 : decode cX8_areMetHere 5 = .ok (.iaload, 1) := by decide +kernel
theorem dX8_areMetHere_6 : decode cX8_areMetHere 6 = .ok (.iconst (-1), 1) := by decide +kernel
theorem dX8_areMetHere_7 : decode cX8_areMetHere 7 = .ok (.if_icmp .eq 18, 3) := by decide +kernel
theorem dX8_areMetHere_10 : decode cX8_areMetHere 10 = .ok (.aload_n 0, 1) := by decide +kernel
theorem dX8_areMetHere_11 : decode cX8_areMetHere 11 = .ok (.getfield 21, 3) := by decide +kernel
theorem dX8_areMetHere_14 : decode cX8_areMetHere 14 = .ok (.iload_n 1, 1) := by decide +kernel
theorem dX8_areMetHere_15 : decode cX8_areMetHere 15 = .ok (.iaload, 1) := by decide +kernel
theorem dX8_areMetHere_16 : decode cX8_areMetHere 16 = .ok (.aload_n 0, 1) := by decide +kernel
theorem dX8_areMetHere_17 : decode cX8_areMetHere 17 = .ok (.getfield 21, 3) := by decide +kernel
theorem dX8_areMetHere_20 : decode cX8_areMetHere 20 = .ok (.iload_n 2, 1) := by decide +kernel
theorem dX8_areMetHere_21 : decode cX8_areMetHere 21 = .ok (.iaload, 1) := by decide +kernel
theorem dX8_areMetHere_22 : decode cX8_areMetHere 22 = .ok (.if_icmp .eq 7, 3) := by decide +kernel
theorem dX8_areMetHere_25 : decode cX8_areMetHere 25 = .ok (.iconst 1, 1) := by decide +kernel
theorem dX8_areMetHere_26 : decode cX8_areMetHere 26 = .ok (.goto 4, 3) := by decide +kernel
theorem dX8_areMetHere_29 : decode cX8_areMetHere 29 = .ok (.iconst 0, 1) := by decide +kernel
theorem dX8_areMetHere_30 : decode cX8_areMetHere 30 = .ok (.ireturn, 1) := by decide +kernel
set_option maxRecDepth 20000 in
theorem ggX8_boxesOverlap_X8_gap : GoodIn wsX8_boxesOverlap wsX8_gap := goodIn_r _ [5, 6, 7, 8, 9, 10, 11, 12, 13, 14, 15, 16, 17, 18, 19, 20, 21, 22, 23, 24] (by decide +kernel) (by decide +kernel)
set_option maxRecDepth 20000 in
theorem gX8_boxesOverlap_X8_gap : GoodIn wsX8_boxesOverlap (wsV RX8 191 RX8 yX8_gap wsX8_gap) := goodIn_app (goodIn_of _ (by decide +kernel)) ggX8_boxesOverlap_X8_gap
theorem dX8_boxesOverlap_0 : decode cX8_boxesOverlap 0 = .ok (.aload_n 0, 1) := by decide +kernel
theorem dX8_boxesOverlap_1 : decode cX8_boxesOverlap 1 = .ok (.iload_n 1, 1) := by decide +kernel
theorem dX8_boxesOverlap_2 : decode cX8_boxesOverlap 2 = .ok (.iload_n 2, 1) := by decide +kernel
theorem dX8_boxesOverlap_3 : decode cX8_boxesOverlap 3 = .ok (.iconst 0, 1) := by decide +kernel
theorem dX8_boxesOverlap_4 : decode cX8_boxesOverlap 4 = .ok (.invokevirtual 191, 3) := by decide +kernel
theorem dX8_boxesOverlap_7 : decode cX8_boxesOverlap 7 = .ok (.ifCond .ge 17, 3) := by decide +kernel
theorem dX8_boxesOverlap_10 : decode cX8_boxesOverlap 10 = .ok (.aload_n 0, 1) := by decide +kernel
theorem dX8_boxesOverlap_11 : decode cX8_boxesOverlap 11 = .ok (.iload_n 1, 1) := by decide +kernel
theorem dX8_boxesOverlap_12 : decode cX8_boxesOverlap 12 = .ok (.iload_n 2, 1) := by decide +kernel
theorem dX8_boxesOverlap_13 : decode cX8_boxesOverlap 13 = .ok (.iconst 1, 1) := by decide +kernel
theorem dX8_boxesOverlap_14 : decode cX8_boxesOverlap 14 = .ok (.invokevirtual 191, 3) := by decide +kernel
theorem dX8_boxesOverlap_17 : decode cX8_boxesOverlap 17 = .ok (.ifCond .ge 7, 3) := by decide +kernel
theorem dX8_boxesOverlap_20 : decode cX8_boxesOverlap 20 = .ok (.iconst 1, 1) := by decide +kernel
theorem dX8_boxesOverlap_21 : decode cX8_boxesOverlap 21 = .ok (.goto 4, 3) := by decide +kernel
theorem dX8_boxesOverlap_24 : decode cX8_boxesOverlap 24 = .ok (.iconst 0, 1) := by decide +kernel
theorem dX8_boxesOverlap_25 : decode cX8_boxesOverlap 25 = .ok (.ireturn, 1) := by decide +kernel
set_option maxRecDepth 20000 in
theorem ggX8_boxesAreNear_X8_gap : GoodIn wsX8_boxesAreNear wsX8_gap := goodIn_r _ [5, 6, 7, 8, 9, 10, 11, 12, 13, 14, 15, 16, 17, 18, 19, 20, 21, 22, 23, 24] (by decide +kernel) (by decide +kernel)
set_option maxRecDepth 20000 in
theorem gX8_boxesAreNear_X8_gap : GoodIn wsX8_boxesAreNear (wsV RX8 191 RX8 yX8_gap wsX8_gap) := goodIn_app (goodIn_of _ (by decide +kernel)) ggX8_boxesAreNear_X8_gap
theorem dX8_boxesAreNear_0 : decode cX8_boxesAreNear 0 = .ok (.aload_n 0, 1) := by decide +kernel
theorem dX8_boxesAreNear_1 : decode cX8_boxesAreNear 1 = .ok (.iload_n 1, 1) := by decide +kernel
theorem dX8_boxesAreNear_2 : decode cX8_boxesAreNear 2 = .ok (.iload_n 2, 1) := by decide +kernel
theorem dX8_boxesAreNear_3 : decode cX8_boxesAreNear 3 = .ok (.iconst 0, 1) := by decide +kernel
theorem dX8_boxesAreNear_4 : decode cX8_boxesAreNear 4 = .ok (.invokevirtual 191, 3) := by decide +kernel
theorem dX8_boxesAreNear_7 : decode cX8_boxesAreNear 7 = .ok (.iload_n 3, 1) := by decide +kernel
theorem dX8_boxesAreNear_8 : decode cX8_boxesAreNear 8 = .ok (.if_icmp .ge 18, 3) := by decide +kernel
theorem dX8_boxesAreNear_11 : decode cX8_boxesAreNear 11 = .ok (.aload_n 0, 1) := by decide +kernel
theorem dX8_boxesAreNear_12 : decode cX8_boxesAreNear 12 = .ok (.iload_n 1, 1) := by decide +kernel
theorem dX8_boxesAreNear_13 : decode cX8_boxesAreNear 13 = .ok (.iload_n 2, 1) := by decide +kernel
theorem dX8_boxesAreNear_14 : decode cX8_boxesAreNear 14 = .ok (.iconst 1, 1) := by decide +kernel
theorem dX8_boxesAreNear_15 : decode cX8_boxesAreNear 15 = .ok (.invokevirtual 191, 3) := by decide +kernel
theorem dX8_boxesAreNear_18 : decode cX8_boxesAreNear 18 = .ok (.iload_n 3, 1) := by decide +kernel
theorem dX8_boxesAreNear_19 : decode cX8_boxesAreNear 19 = .ok (.if_icmp .ge 7, 3) := by decide +kernel
theorem dX8_boxesAreNear_22 : decode cX8_boxesAreNear 22 = .ok (.iconst 1, 1) := by decide +kernel
theorem dX8_boxesAreNear_23 : decode cX8_boxesAreNear 23 = .ok (.goto 4, 3) := by decide +kernel
theorem dX8_boxesAreNear_26 : decode cX8_boxesAreNear 26 = .ok (.iconst 0, 1) := by decide +kernel
theorem dX8_boxesAreNear_27 : decode cX8_boxesAreNear 27 = .ok (.ireturn, 1) := by decide +kernel
theorem dX8_gap_0 : decode cX8_gap 0 = .ok (.iload_n 1, 1) := by decide +kernel
theorem dX8_gap_1 : decode cX8_gap 1 = .ok (.iconst 4, 1) := by decide +kernel
theorem dX8_gap_2 : decode cX8_gap 2 = .ok (.imul, 1) := by decide +kernel
theorem dX8_gap_3 : decode cX8_gap 3 = .ok (.iload_n 3, 1) := by decide +kernel
theorem dX8_gap_4 : decode cX8_gap 4 = .ok (.iadd, 1) := by decide +kernel
theorem dX8_gap_5 : decode cX8_gap 5 = .ok (.istore 4, 2) := by decide +kernel
theorem dX8_gap_7 : decode cX8_gap 7 = .ok (.iload_n 2, 1) := by decide +kernel
theorem dX8_gap_8 : decode cX8_gap 8 = .ok (.iconst 4, 1) := by decide +kernel
theorem dX8_gap_9 : decode cX8_gap 9 = .ok (.imul, 1) := by decide +kernel
theorem dX8_gap_10 : decode cX8_gap 10 = .ok (.iload_n 3, 1) := by decide +kernel
theorem dX8_gap_11 : decode cX8_gap 11 = .ok (.iadd, 1) := by decide +kernel
theorem dX8_gap_12 : decode cX8_gap 12 = .ok (.istore 5, 2) := by decide +kernel
theorem dX8_gap_14 : decode cX8_gap 14 = .ok (.aload_n 0, 1) := by decide +kernel
theorem dX8_gap_15 : decode cX8_gap 15 = .ok (.getfield 27, 3) := by decide +kernel
theorem dX8_gap_18 : decode cX8_gap 18 = .ok (.iload 5, 2) := by decide +kernel
theorem dX8_gap_20 : decode cX8_gap 20 = .ok (.iaload, 1) := by decide +kernel
theorem dX8_gap_21 : decode cX8_gap 21 = .ok (.aload_n 0, 1) := by decide +kernel
theorem dX8_gap_22 : decode cX8_gap 22 = .ok (.getfield 27, 3) := by decide +kernel
theorem dX8_gap_25 : decode cX8_gap 25 = .ok (.iload 4, 2) := by decide +kernel
theorem dX8_gap_27 : decode cX8_gap 27 = .ok (.iconst 2, 1) := by decide +kernel
theorem dX8_gap_28 : decode cX8_gap 28 = .ok (.iadd, 1) := by decide +kernel
theorem dX8_gap_29 : decode cX8_gap 29 = .ok (.iaload, 1) := by decide +kernel
theorem dX8_gap_30 : decode cX8_gap 30 = .ok (.isub, 1) := by decide +kernel
theorem dX8_gap_31 : decode cX8_gap 31 = .ok (.aload_n 0, 1) := by decide +kernel
theorem dX8_gap_32 : decode cX8_gap 32 = .ok (.getfield 27, 3) := by decide +kernel
theorem dX8_gap_35 : decode cX8_gap 35 = .ok (.iload 4, 2) := by decide +kernel
theorem dX8_gap_37 : decode cX8_gap 37 = .ok (.iaload, 1) := by decide +kernel
theorem dX8_gap_38 : decode cX8_gap 38 = .ok (.aload_n 0, 1) := by decide +kernel
theorem dX8_gap_39 : decode cX8_gap 39 = .ok (.getfield 27, 3) := by decide +kernel
theorem dX8_gap_42 : decode cX8_gap 42 = .ok (.iload 5, 2) := by decide +kernel
theorem dX8_gap_44 : decode cX8_gap 44 = .ok (.iconst 2, 1) := by decide +kernel
theorem dX8_gap_45 : decode cX8_gap 45 = .ok (.iadd, 1) := by decide +kernel
theorem dX8_gap_46 : decode cX8_gap 46 = .ok (.iaload, 1) := by decide +kernel
theorem dX8_gap_47 : decode cX8_gap 47 = .ok (.isub, 1) := by decide +kernel
theorem dX8_gap_48 : decode cX8_gap 48 = .ok (.invokestatic 166, 3) := by decide +kernel
theorem dX8_gap_51 : decode cX8_gap 51 = .ok (.ireturn, 1) := by decide +kernel

abbrev mX8_gap : sv_M := (cX8_gap, 6, yX8_gap, wsX8_gap, (some .int), { frames := 2, cells := 0, slots := 0, locals := 40 }, [])
abbrev mX8_boxesOverlap : sv_M := (cX8_boxesOverlap, 3, yX8_boxesOverlap, wsX8_boxesOverlap, (some .boolean), { frames := 4, cells := 0, slots := 0, locals := 90 }, [])
abbrev mX8_boxesAreNear : sv_M := (cX8_boxesAreNear, 4, yX8_boxesAreNear, wsX8_boxesAreNear, (some .boolean), { frames := 4, cells := 0, slots := 0, locals := 90 }, [])
abbrev mX8_areMetHere : sv_M := (cX8_areMetHere, 3, yX8_areMetHere, wsX8_areMetHere, (some .boolean), { frames := 0, cells := 0, slots := 0, locals := 0 }, [])
abbrev mX7_isBetween : sv_M := (cX7_isBetween, 3, yX7_isBetween, wsX7_isBetween, (some .boolean), { frames := 0, cells := 0, slots := 0, locals := 0 }, [])
abbrev mX1_areOnBothLayers : sv_M := (cX1_areOnBothLayers, 3, yX1_areOnBothLayers, wsX1_areOnBothLayers, (some .boolean), { frames := 2, cells := 0, slots := 0, locals := 60 }, [])
abbrev mX1_areNear : sv_M := (cX1_areNear, 4, yX1_areNear, wsX1_areNear, (some .boolean), { frames := 6, cells := 0, slots := 0, locals := 160 }, [])
section SVA
variable {G : sv_G} {M : sv_M} {P : sv_P} {pc : Nat} {L : List (Nat × Value)} {S : List Value} {h : sv_h} {z ce sl : Nat}
theorem v_mabs {index : Nat} {x : Int32} (w1 : Cond.methodLink M.2.2.1.cls index Lib.Math.abs.name ∈ M.2.2.2.1) (w2 : Cond.static Lib.Math.abs.name ∈ M.2.2.2.1) (w3 : Cond.initialized "java/lang/Math" ∈ M.2.2.2.1) (w4 : Cond.code Lib.Math.abs.name Lib.Math.abs.code 1 (some .int) ∈ M.2.2.2.1) (hdg : decode M.1 pc = .ok (.invokestatic index, 3)) (hfr : 1 ≤ M.2.2.2.2.2.1.frames) (hlo : (S.map fun v => v.category).sum + 13 ≤ M.2.2.2.2.2.1.locals) (hc : ce ≤ M.2.2.2.2.2.1.cells) (hs : sl ≤ M.2.2.2.2.2.1.slots)
    (kk : V G M P (pc + 3) L (.int (if 0 ≤ x then x else 0 - x) :: S) h z ce sl) : V G M P pc L (.int x :: S) h z ce sl := by
  intro p e s m args below meth c H locs ls C K Z hS hH hl
  exact va_mabs C.1 C.2.1 (by rw [C.2.2.1]; exact hl.1.symm) C.2.2.2.1 (C.2.2.2.2.1 _ w1) (C.2.2.2.2.1 _ w2) (C.2.2.2.2.1 _ w3) (C.2.2.2.2.1 _ w4) hfr hlo hc hs hdg (kk p e s m args below meth c H locs ls C K Z hS hH hl)
end SVA
/-- the box of occurrence q: least x, least y, greatest x, greatest y -/
def bxO (mp : Nat → mvT) (sz : Nat → Nat) (X Y : Nat → Nat → Int) (q : List Nat × Nat) (j : Nat) : Int := bxk (cor mp X Y q) (sz q.2 - 1) j
/-- how far two boxes are apart -/
def gp_ (mp : Nat → mvT) (sz : Nat → Nat) (X Y : Nat → Nat → Int) (q r : List Nat × Nat) (a : Nat) : Int := max (bxO mp sz X Y r a - bxO mp sz X Y q (a + 2)) (bxO mp sz X Y q a - bxO mp sz X Y r (a + 2))
theorem bxk_b {C : Nat → Int × Int} {n k : Nat} (h : cbd C n) (hk : k < n) (j : Nat) : -200000 ≤ bxk C k j ∧ bxk C k j ≤ 200000 := by
  unfold bxk
  split
  · exact mnF_b (n := n) (fun i hi => (h i hi).1) k hk
  · exact mnF_b (n := n) (fun i hi => (h i hi).2) k hk
  · exact mxF_b (n := n) (fun i hi => (h i hi).1) k hk
  · exact mxF_b (n := n) (fun i hi => (h i hi).2) k hk
theorem gp_b {mp : Nat → mvT} {sz : Nat → Nat} {X Y : Nat → Nat → Int} {q r : List Nat × Nat} {a : Nat} (h1 : ∀ j, -200000 ≤ bxO mp sz X Y q j ∧ bxO mp sz X Y q j ≤ 200000) (h2 : ∀ j, -200000 ≤ bxO mp sz X Y r j ∧ bxO mp sz X Y r j ≤ 200000) : -400000 ≤ gp_ mp sz X Y q r a ∧ gp_ mp sz X Y q r a ≤ 400000 := by
  have a1 := h1 a; have a2 := h1 (a + 2); have a3 := h2 a; have a4 := h2 (a + 2)
  unfold gp_
  omega
set_option maxHeartbeats 4000000 in
set_option maxRecDepth 100000 in
theorem c_gap (G : sv_G) (hb : sv_h) (z b : Nat) (k : Int32) (nc np pl : Nat) (R : Nat → Bool) (hm pa sz : Nat → Nat) (ly vo ar : Nat → Int32) (X Y : Nat → Nat → Int) (fc : Nat → Nat → Nat) (oc : Nat → Nat → Option Nat) (mp : Nat → mvT) (w3 : Bool) (T : List Nat × Nat → Nat → List (Int × Int × Int)) (S : List (List Nat × Nat)) (q t : Nat) (n0 : Int64) (kd : Nat) (l1 l2 x3 x4 x5 x6 : Int32) (K : ck_ G w3 b k nc np pl R hm pa sz ly vo ar X Y fc oc mp T S q t n0 kd l1 l2 x3 x4 x5 x6 hb) (h : sv_h) (fr : ∀ a, ¬ (t ≤ a ∧ a < t + 4) → h a = hb a) (i : Nat) (hi : i < S.length) (j : Nat) (hj : j < S.length) (ax : Nat) (hax : ax < 2) : CT G mX8_gap [.ref (b + 35), .int (nI i), .int (nI j), .int (nI ax)] h z (fun v h1 z1 => v = some (.int (iN (gp_ mp sz X Y (S.getD i ([], 0)) (S.getD j ([], 0)) ax))) ∧ h1 = h ∧ z1 = z) := by
  refine CT.of (by decide +kernel) rfl rfl (Nat.le_of_ble_eq_true rfl) ?_
  obtain ⟨Z, ⟨⟨fb, fcx, fcy, k1, k2, k3, k4⟩, ⟨fs9, fa, fr9, ft, k5, k6, k7, k8, k9, kA, kB⟩, ⟨fsp, kC⟩, _⟩, kD, kE, kF, kG, kH, kI⟩ := id K
  obtain ⟨z0, z1, ⟨fs, z2, z3⟩, ⟨fb_, z4, z5⟩, ⟨fl, z6, z7⟩, z8, z9, ⟨fq, zA, zB⟩, zC, zD, zE, zF⟩ := id Z
  have w1 := (fr (b + 35) (by omega)).trans z1
  have w2 : ab_I G h (b + 37) 100 fs := (fr _ (by omega)).trans z2
  have w4 : ab_I G h (b + 38) 100 fb_ := (fr _ (by omega)).trans z4
  have w6 : ab_Q G h (b + 39) 3 100 fl := (fr _ (by omega)).trans z6
  have w9 := (fr (b + 1) (by omega)).trans z9
  have wA : ab_Q G h (b + 2) 4 64 fq := (fr _ (by omega)).trans zA
  have wB : ab_I G h (b + 40) 400 fb := (fr _ (by omega)).trans k1
  have wC : ab_I G h (b + 44) 401 fs9 := (fr _ (by omega)).trans k5
  have wD : ab_I G h (b + 45) 1600 fa := (fr _ (by omega)).trans k6
  have wE : ab_I G h (b + 46) 1600 fr9 := (fr _ (by omega)).trans k7
  have wF : ab_I G h (b + 47) 1600 ft := (fr _ (by omega)).trans k8
  have wG := (fr (b + 32) (by omega)).trans kD
  have wH := (fr q (by omega)).trans kE
  have bxi : ∀ j9, -200000 ≤ bxO mp sz X Y (S.getD i ([], 0)) j9 ∧ bxO mp sz X Y (S.getD i ([], 0)) j9 ≤ 200000 := fun j9 => bxk_b (zE i hi).2.2 (by obtain ⟨_, _, _, _, _, _, _, _, _, g4, _⟩ := zD _ (zE i hi).1 (zE i hi).2.1; omega) j9
  have bxj : ∀ j9, -200000 ≤ bxO mp sz X Y (S.getD j ([], 0)) j9 ∧ bxO mp sz X Y (S.getD j ([], 0)) j9 ≤ 200000 := fun j9 => bxk_b (zE j hj).2.2 (by obtain ⟨_, _, _, _, _, _, _, _, _, g4, _⟩ := zD _ (zE j hj).1 (zE j hj).2.1; omega) j9
  refine v_iload_n dX8_gap_0 rfl 1 rfl ?_
  refine v_iconst (v := 4) dX8_gap_1 (by decide) ?_
  refine v_imul dX8_gap_2 ?_
  refine v_iload_n dX8_gap_3 rfl 3 rfl ?_
  refine v_iadd dX8_gap_4 ?_
  rw [sv_4 i ax]
  refine v_istore (L' := [(4, _), (0, _), (1, _), (2, _), (3, _)]) dX8_gap_5 (Nat.le_of_ble_eq_true rfl) rfl ?_
  refine v_iload_n dX8_gap_7 rfl 3 rfl ?_
  refine v_iconst (v := 4) dX8_gap_8 (by decide) ?_
  refine v_imul dX8_gap_9 ?_
  refine v_iload_n dX8_gap_10 rfl 4 rfl ?_
  refine v_iadd dX8_gap_11 ?_
  rw [sv_4 j ax]
  refine v_istore (L' := [(5, _), (4, _), (0, _), (1, _), (2, _), (3, _)]) dX8_gap_12 (Nat.le_of_ble_eq_true rfl) rfl ?_
  refine v_aload_n dX8_gap_14 rfl 2 rfl ?_
  refine v_getf 6 (ci := 6) (C := RX8) (T := TX8) (N := 14) rfl iwX8_gap_X8 (Nat.le_of_ble_eq_true rfl) (by decide +kernel) dX8_gap_15 (by first | with_reducible assumption) rfl ?_
  refine v_iload dX8_gap_18 0 rfl ?_
  refine v_ialdS (v := iN (bxO mp sz X Y (S.getD j ([], 0)) ax)) dX8_gap_20 (by first | with_reducible assumption) (vp_in_nI (by omega) (by omega)) (by rw [nI_clamp (by omega)]; exact k4 j hj ax (by omega)) ?_
  refine v_aload_n dX8_gap_21 rfl 2 rfl ?_
  refine v_getf 6 (ci := 6) (C := RX8) (T := TX8) (N := 14) rfl iwX8_gap_X8 (Nat.le_of_ble_eq_true rfl) (by decide +kernel) dX8_gap_22 (by first | with_reducible assumption) rfl ?_
  refine v_iload dX8_gap_25 1 rfl ?_
  refine v_iconst (v := 2) dX8_gap_27 (by decide) ?_
  refine v_iadd dX8_gap_28 ?_
  rw [show nI (4 * i + ax) + 2 = nI (4 * i + (ax + 2)) from nI_add (4 * i + ax) 2]
  refine v_ialdS (v := iN (bxO mp sz X Y (S.getD i ([], 0)) (ax + 2))) dX8_gap_29 (by first | with_reducible assumption) (vp_in_nI (by omega) (by omega)) (by rw [nI_clamp (by omega)]; exact k4 i hi (ax + 2) (by omega)) ?_
  refine v_isub dX8_gap_30 ?_
  rw [← iN_sub]
  refine v_aload_n dX8_gap_31 rfl 2 rfl ?_
  refine v_getf 6 (ci := 6) (C := RX8) (T := TX8) (N := 14) rfl iwX8_gap_X8 (Nat.le_of_ble_eq_true rfl) (by decide +kernel) dX8_gap_32 (by first | with_reducible assumption) rfl ?_
  refine v_iload dX8_gap_35 1 rfl ?_
  refine v_ialdS (v := iN (bxO mp sz X Y (S.getD i ([], 0)) ax)) dX8_gap_37 (by first | with_reducible assumption) (vp_in_nI (by omega) (by omega)) (by rw [nI_clamp (by omega)]; exact k4 i hi ax (by omega)) ?_
  refine v_aload_n dX8_gap_38 rfl 2 rfl ?_
  refine v_getf 6 (ci := 6) (C := RX8) (T := TX8) (N := 14) rfl iwX8_gap_X8 (Nat.le_of_ble_eq_true rfl) (by decide +kernel) dX8_gap_39 (by first | with_reducible assumption) rfl ?_
  refine v_iload dX8_gap_42 0 rfl ?_
  refine v_iconst (v := 2) dX8_gap_44 (by decide) ?_
  refine v_iadd dX8_gap_45 ?_
  rw [show nI (4 * j + ax) + 2 = nI (4 * j + (ax + 2)) from nI_add (4 * j + ax) 2]
  refine v_ialdS (v := iN (bxO mp sz X Y (S.getD j ([], 0)) (ax + 2))) dX8_gap_46 (by first | with_reducible assumption) (vp_in_nI (by omega) (by omega)) (by rw [nI_clamp (by omega)]; exact k4 j hj (ax + 2) (by omega)) ?_
  refine v_isub dX8_gap_47 ?_
  rw [← iN_sub]
  refine v_mmax (by decide +kernel) (by decide +kernel) (by decide +kernel) (by decide +kernel) dX8_gap_48 (Nat.le_of_ble_eq_true rfl) (Nat.le_of_ble_eq_true rfl) (Nat.le_of_ble_eq_true rfl) (Nat.le_of_ble_eq_true rfl) ?_
  exact v_iret rfl dX8_gap_51 (Nat.le_of_ble_eq_true rfl) (Nat.le_of_ble_eq_true rfl) rfl ⟨congrArg (fun q9 => some (Value.int q9)) (gmI_max (by have q1 := bxi (ax + 2); have q3 := bxj ax; omega) (by have q2 := bxi ax; have q4 := bxj (ax + 2); omega)), rfl, rfl⟩

theorem c_gapN (G : sv_G) (hb : sv_h) (z b : Nat) (k : Int32) (nc np pl : Nat) (R : Nat → Bool) (hm pa sz : Nat → Nat) (ly vo ar : Nat → Int32) (X Y : Nat → Nat → Int) (fc : Nat → Nat → Nat) (oc : Nat → Nat → Option Nat) (mp : Nat → mvT) (w3 : Bool) (T : List Nat × Nat → Nat → List (Int × Int × Int)) (S : List (List Nat × Nat)) (q t : Nat) (n0 : Int64) (kd : Nat) (l1 l2 x3 x4 x5 x6 : Int32) (K : ck_ G w3 b k nc np pl R hm pa sz ly vo ar X Y fc oc mp T S q t n0 kd l1 l2 x3 x4 x5 x6 hb) (h : sv_h) (fr : ∀ a, ¬ (t ≤ a ∧ a < t + 4) → h a = hb a) (i : Nat) (hi : i < S.length) (j : Nat) (hj : j < S.length) (ax : Nat) (hax : ax < 2) {av : Int32} (e : av = nI ax) : CT G mX8_gap [.ref (b + 35), .int (nI i), .int (nI j), .int av] h z (fun v h1 z1 => v = some (.int (iN (gp_ mp sz X Y (S.getD i ([], 0)) (S.getD j ([], 0)) ax))) ∧ h1 = h ∧ z1 = z) := by
  subst e
  exact c_gap G hb z b k nc np pl R hm pa sz ly vo ar X Y fc oc mp w3 T S q t n0 kd l1 l2 x3 x4 x5 x6 K h fr i hi j hj ax hax
set_option maxHeartbeats 4000000 in
set_option maxRecDepth 100000 in
theorem c_boxesOverlap (G : sv_G) (hb : sv_h) (z b : Nat) (k : Int32) (nc np pl : Nat) (R : Nat → Bool) (hm pa sz : Nat → Nat) (ly vo ar : Nat → Int32) (X Y : Nat → Nat → Int) (fc : Nat → Nat → Nat) (oc : Nat → Nat → Option Nat) (mp : Nat → mvT) (w3 : Bool) (T : List Nat × Nat → Nat → List (Int × Int × Int)) (S : List (List Nat × Nat)) (q t : Nat) (n0 : Int64) (kd : Nat) (l1 l2 x3 x4 x5 x6 : Int32) (K : ck_ G w3 b k nc np pl R hm pa sz ly vo ar X Y fc oc mp T S q t n0 kd l1 l2 x3 x4 x5 x6 hb) (h : sv_h) (fr : ∀ a, ¬ (t ≤ a ∧ a < t + 4) → h a = hb a) (i : Nat) (hi : i < S.length) (j : Nat) (hj : j < S.length) : CT G mX8_boxesOverlap [.ref (b + 35), .int (nI i), .int (nI j)] h z (fun v h1 z1 => v = some (.int (if (gp_ mp sz X Y (S.getD i ([], 0)) (S.getD j ([], 0)) 0 < 0 ∧ gp_ mp sz X Y (S.getD i ([], 0)) (S.getD j ([], 0)) 1 < 0) then 1 else 0)) ∧ h1 = h ∧ z1 = z) := by
  refine CT.of (by decide +kernel) rfl rfl (Nat.le_of_ble_eq_true rfl) ?_
  obtain ⟨Z, ⟨⟨fb, fcx, fcy, k1, k2, k3, k4⟩, ⟨fs9, fa, fr9, ft, k5, k6, k7, k8, k9, kA, kB⟩, ⟨fsp, kC⟩, _⟩, kD, kE, kF, kG, kH, kI⟩ := id K
  obtain ⟨z0, z1, ⟨fs, z2, z3⟩, ⟨fb_, z4, z5⟩, ⟨fl, z6, z7⟩, z8, z9, ⟨fq, zA, zB⟩, zC, zD, zE, zF⟩ := id Z
  have w1 := (fr (b + 35) (by omega)).trans z1
  have w2 : ab_I G h (b + 37) 100 fs := (fr _ (by omega)).trans z2
  have w4 : ab_I G h (b + 38) 100 fb_ := (fr _ (by omega)).trans z4
  have w6 : ab_Q G h (b + 39) 3 100 fl := (fr _ (by omega)).trans z6
  have w9 := (fr (b + 1) (by omega)).trans z9
  have wA : ab_Q G h (b + 2) 4 64 fq := (fr _ (by omega)).trans zA
  have wB : ab_I G h (b + 40) 400 fb := (fr _ (by omega)).trans k1
  have wC : ab_I G h (b + 44) 401 fs9 := (fr _ (by omega)).trans k5
  have wD : ab_I G h (b + 45) 1600 fa := (fr _ (by omega)).trans k6
  have wE : ab_I G h (b + 46) 1600 fr9 := (fr _ (by omega)).trans k7
  have wF : ab_I G h (b + 47) 1600 ft := (fr _ (by omega)).trans k8
  have wG := (fr (b + 32) (by omega)).trans kD
  have wH := (fr q (by omega)).trans kE
  have bxi : ∀ j9, -200000 ≤ bxO mp sz X Y (S.getD i ([], 0)) j9 ∧ bxO mp sz X Y (S.getD i ([], 0)) j9 ≤ 200000 := fun j9 => bxk_b (zE i hi).2.2 (by obtain ⟨_, _, _, _, _, _, _, _, _, g4, _⟩ := zD _ (zE i hi).1 (zE i hi).2.1; omega) j9
  have bxj : ∀ j9, -200000 ≤ bxO mp sz X Y (S.getD j ([], 0)) j9 ∧ bxO mp sz X Y (S.getD j ([], 0)) j9 ≤ 200000 := fun j9 => bxk_b (zE j hj).2.2 (by obtain ⟨_, _, _, _, _, _, _, _, _, g4, _⟩ := zD _ (zE j hj).1 (zE j hj).2.1; omega) j9
  have gb0 := gp_b (a := 0) bxi bxj
  have gb1 := gp_b (a := 1) bxi bxj
  refine v_aload_n dX8_boxesOverlap_0 rfl 0 rfl ?_
  refine v_iload_n dX8_boxesOverlap_1 rfl 1 rfl ?_
  refine v_iload_n dX8_boxesOverlap_2 rfl 2 rfl ?_
  refine v_iconst (v := 0) dX8_boxesOverlap_3 (by decide) ?_
  refine v_callVq (M' := mX8_gap) (n := 3) (As := [_, _, _]) (ci := 6) (r := (RX8, TX8, 14)) gX8_boxesOverlap_X8_gap rfl (by decide +kernel) ⟨(Nat.le_of_ble_eq_true rfl), (Nat.le_of_ble_eq_true rfl)⟩ rfl rfl dX8_boxesOverlap_4 rfl ⟨(Nat.le_of_ble_eq_true rfl), (Nat.le_of_ble_eq_true rfl)⟩ (Nat.le_of_ble_eq_true rfl) (by first | with_reducible assumption) rfl (c_gapN G hb _ b k nc np pl R hm pa sz ly vo ar X Y fc oc mp w3 T S q t n0 kd l1 l2 x3 x4 x5 x6 K h fr i hi j hj 0 (by decide) (by decide)) (fun v9 h9 y9 hq => v_pq hq ?_)
  refine v_if_ge (tgt := 24) dX8_boxesOverlap_7 (by decide) (fun c_7 => ?_) (fun c_7 => ?_)
  · refine v_iconst (v := 0) dX8_boxesOverlap_24 (by decide) ?_
    exact v_iret rfl dX8_boxesOverlap_25 (Nat.le_of_ble_eq_true rfl) (Nat.le_of_ble_eq_true rfl) rfl (by
          have cv0 : (iN (gp_ mp sz X Y (S.getD i ([], 0)) (S.getD j ([], 0)) 0) < 0) ↔ gp_ mp sz X Y (S.getD i ([], 0)) (S.getD j ([], 0)) 0 < 0 := (by rw [Int32.lt_iff_toInt_lt, iN_to (by omega) (by omega)]; exact Iff.rfl)
          have cv1 : (iN (gp_ mp sz X Y (S.getD i ([], 0)) (S.getD j ([], 0)) 1) < 0) ↔ gp_ mp sz X Y (S.getD i ([], 0)) (S.getD j ([], 0)) 1 < 0 := (by rw [Int32.lt_iff_toInt_lt, iN_to (by omega) (by omega)]; exact Iff.rfl)
          by_cases e9 : (gp_ mp sz X Y (S.getD i ([], 0)) (S.getD j ([], 0)) 0 < 0 ∧ gp_ mp sz X Y (S.getD i ([], 0)) (S.getD j ([], 0)) 1 < 0)
          · rw [if_pos e9]
            first
              | exact ⟨rfl, rfl, rfl⟩
              | exact absurd (cv1.mpr e9.2) (Int32.not_lt.mpr c_17)
              | exact absurd (cv0.mpr e9.1) (Int32.not_lt.mpr c_7)
          · rw [if_neg e9]
            first
              | exact ⟨rfl, rfl, rfl⟩
              | exact (e9 ⟨cv0.mp (Int32.not_le.mp c_7), cv1.mp (Int32.not_le.mp c_17)⟩).elim)
  · refine v_aload_n dX8_boxesOverlap_10 rfl 0 rfl ?_
    refine v_iload_n dX8_boxesOverlap_11 rfl 1 rfl ?_
    refine v_iload_n dX8_boxesOverlap_12 rfl 2 rfl ?_
    refine v_iconst (v := 1) dX8_boxesOverlap_13 (by decide) ?_
    refine v_callVq (M' := mX8_gap) (n := 3) (As := [_, _, _]) (ci := 6) (r := (RX8, TX8, 14)) gX8_boxesOverlap_X8_gap rfl (by decide +kernel) ⟨(Nat.le_of_ble_eq_true rfl), (Nat.le_of_ble_eq_true rfl)⟩ rfl rfl dX8_boxesOverlap_14 rfl ⟨(Nat.le_of_ble_eq_true rfl), (Nat.le_of_ble_eq_true rfl)⟩ (Nat.le_of_ble_eq_true rfl) (by first | with_reducible assumption) rfl (c_gapN G hb _ b k nc np pl R hm pa sz ly vo ar X Y fc oc mp w3 T S q t n0 kd l1 l2 x3 x4 x5 x6 K h fr i hi j hj 1 (by decide) (by decide)) (fun v9 h9 y9 hq => v_pq hq ?_)
    refine v_if_ge (tgt := 24) dX8_boxesOverlap_17 (by decide) (fun c_17 => ?_) (fun c_17 => ?_)
    · refine v_iconst (v := 0) dX8_boxesOverlap_24 (by decide) ?_
      exact v_iret rfl dX8_boxesOverlap_25 (Nat.le_of_ble_eq_true rfl) (Nat.le_of_ble_eq_true rfl) rfl (by
            have cv0 : (iN (gp_ mp sz X Y (S.getD i ([], 0)) (S.getD j ([], 0)) 0) < 0) ↔ gp_ mp sz X Y (S.getD i ([], 0)) (S.getD j ([], 0)) 0 < 0 := (by rw [Int32.lt_iff_toInt_lt, iN_to (by omega) (by omega)]; exact Iff.rfl)
            have cv1 : (iN (gp_ mp sz X Y (S.getD i ([], 0)) (S.getD j ([], 0)) 1) < 0) ↔ gp_ mp sz X Y (S.getD i ([], 0)) (S.getD j ([], 0)) 1 < 0 := (by rw [Int32.lt_iff_toInt_lt, iN_to (by omega) (by omega)]; exact Iff.rfl)
            by_cases e9 : (gp_ mp sz X Y (S.getD i ([], 0)) (S.getD j ([], 0)) 0 < 0 ∧ gp_ mp sz X Y (S.getD i ([], 0)) (S.getD j ([], 0)) 1 < 0)
            · rw [if_pos e9]
              first
                | exact ⟨rfl, rfl, rfl⟩
                | exact absurd (cv1.mpr e9.2) (Int32.not_lt.mpr c_17)
                | exact absurd (cv0.mpr e9.1) (Int32.not_lt.mpr c_7)
            · rw [if_neg e9]
              first
                | exact ⟨rfl, rfl, rfl⟩
                | exact (e9 ⟨cv0.mp (Int32.not_le.mp c_7), cv1.mp (Int32.not_le.mp c_17)⟩).elim)
    · refine v_iconst (v := 1) dX8_boxesOverlap_20 (by decide) ?_
      refine v_goto (tgt := 25) dX8_boxesOverlap_21 (by decide) ?_
      exact v_iret rfl dX8_boxesOverlap_25 (Nat.le_of_ble_eq_true rfl) (Nat.le_of_ble_eq_true rfl) rfl (by
            have cv0 : (iN (gp_ mp sz X Y (S.getD i ([], 0)) (S.getD j ([], 0)) 0) < 0) ↔ gp_ mp sz X Y (S.getD i ([], 0)) (S.getD j ([], 0)) 0 < 0 := (by rw [Int32.lt_iff_toInt_lt, iN_to (by omega) (by omega)]; exact Iff.rfl)
            have cv1 : (iN (gp_ mp sz X Y (S.getD i ([], 0)) (S.getD j ([], 0)) 1) < 0) ↔ gp_ mp sz X Y (S.getD i ([], 0)) (S.getD j ([], 0)) 1 < 0 := (by rw [Int32.lt_iff_toInt_lt, iN_to (by omega) (by omega)]; exact Iff.rfl)
            by_cases e9 : (gp_ mp sz X Y (S.getD i ([], 0)) (S.getD j ([], 0)) 0 < 0 ∧ gp_ mp sz X Y (S.getD i ([], 0)) (S.getD j ([], 0)) 1 < 0)
            · rw [if_pos e9]
              first
                | exact ⟨rfl, rfl, rfl⟩
                | exact absurd (cv1.mpr e9.2) (Int32.not_lt.mpr c_17)
                | exact absurd (cv0.mpr e9.1) (Int32.not_lt.mpr c_7)
            · rw [if_neg e9]
              first
                | exact ⟨rfl, rfl, rfl⟩
                | exact (e9 ⟨cv0.mp (Int32.not_le.mp c_7), cv1.mp (Int32.not_le.mp c_17)⟩).elim)

set_option maxHeartbeats 4000000 in
set_option maxRecDepth 100000 in
theorem c_boxesAreNear (G : sv_G) (hb : sv_h) (z b : Nat) (k : Int32) (nc np pl : Nat) (R : Nat → Bool) (hm pa sz : Nat → Nat) (ly vo ar : Nat → Int32) (X Y : Nat → Nat → Int) (fc : Nat → Nat → Nat) (oc : Nat → Nat → Option Nat) (mp : Nat → mvT) (w3 : Bool) (T : List Nat × Nat → Nat → List (Int × Int × Int)) (S : List (List Nat × Nat)) (q t : Nat) (n0 : Int64) (kd : Nat) (l1 l2 x3 x4 x5 x6 : Int32) (K : ck_ G w3 b k nc np pl R hm pa sz ly vo ar X Y fc oc mp T S q t n0 kd l1 l2 x3 x4 x5 x6 hb) (h : sv_h) (fr : ∀ a, ¬ (t ≤ a ∧ a < t + 4) → h a = hb a) (i : Nat) (hi : i < S.length) (j : Nat) (hj : j < S.length) (li : Int32) : CT G mX8_boxesAreNear [.ref (b + 35), .int (nI i), .int (nI j), .int li] h z (fun v h1 z1 => v = some (.int (if (gp_ mp sz X Y (S.getD i ([], 0)) (S.getD j ([], 0)) 0 < li.toInt ∧ gp_ mp sz X Y (S.getD i ([], 0)) (S.getD j ([], 0)) 1 < li.toInt) then 1 else 0)) ∧ h1 = h ∧ z1 = z) := by
  refine CT.of (by decide +kernel) rfl rfl (Nat.le_of_ble_eq_true rfl) ?_
  obtain ⟨Z, ⟨⟨fb, fcx, fcy, k1, k2, k3, k4⟩, ⟨fs9, fa, fr9, ft, k5, k6, k7, k8, k9, kA, kB⟩, ⟨fsp, kC⟩, _⟩, kD, kE, kF, kG, kH, kI⟩ := id K
  obtain ⟨z0, z1, ⟨fs, z2, z3⟩, ⟨fb_, z4, z5⟩, ⟨fl, z6, z7⟩, z8, z9, ⟨fq, zA, zB⟩, zC, zD, zE, zF⟩ := id Z
  have w1 := (fr (b + 35) (by omega)).trans z1
  have w2 : ab_I G h (b + 37) 100 fs := (fr _ (by omega)).trans z2
  have w4 : ab_I G h (b + 38) 100 fb_ := (fr _ (by omega)).trans z4
  have w6 : ab_Q G h (b + 39) 3 100 fl := (fr _ (by omega)).trans z6
  have w9 := (fr (b + 1) (by omega)).trans z9
  have wA : ab_Q G h (b + 2) 4 64 fq := (fr _ (by omega)).trans zA
  have wB : ab_I G h (b + 40) 400 fb := (fr _ (by omega)).trans k1
  have wC : ab_I G h (b + 44) 401 fs9 := (fr _ (by omega)).trans k5
  have wD : ab_I G h (b + 45) 1600 fa := (fr _ (by omega)).trans k6
  have wE : ab_I G h (b + 46) 1600 fr9 := (fr _ (by omega)).trans k7
  have wF : ab_I G h (b + 47) 1600 ft := (fr _ (by omega)).trans k8
  have wG := (fr (b + 32) (by omega)).trans kD
  have wH := (fr q (by omega)).trans kE
  have bxi : ∀ j9, -200000 ≤ bxO mp sz X Y (S.getD i ([], 0)) j9 ∧ bxO mp sz X Y (S.getD i ([], 0)) j9 ≤ 200000 := fun j9 => bxk_b (zE i hi).2.2 (by obtain ⟨_, _, _, _, _, _, _, _, _, g4, _⟩ := zD _ (zE i hi).1 (zE i hi).2.1; omega) j9
  have bxj : ∀ j9, -200000 ≤ bxO mp sz X Y (S.getD j ([], 0)) j9 ∧ bxO mp sz X Y (S.getD j ([], 0)) j9 ≤ 200000 := fun j9 => bxk_b (zE j hj).2.2 (by obtain ⟨_, _, _, _, _, _, _, _, _, g4, _⟩ := zD _ (zE j hj).1 (zE j hj).2.1; omega) j9
  have gb0 := gp_b (a := 0) bxi bxj
  have gb1 := gp_b (a := 1) bxi bxj
  refine v_aload_n dX8_boxesAreNear_0 rfl 0 rfl ?_
  refine v_iload_n dX8_boxesAreNear_1 rfl 1 rfl ?_
  refine v_iload_n dX8_boxesAreNear_2 rfl 2 rfl ?_
  refine v_iconst (v := 0) dX8_boxesAreNear_3 (by decide) ?_
  refine v_callVq (M' := mX8_gap) (n := 3) (As := [_, _, _]) (ci := 6) (r := (RX8, TX8, 14)) gX8_boxesAreNear_X8_gap rfl (by decide +kernel) ⟨(Nat.le_of_ble_eq_true rfl), (Nat.le_of_ble_eq_true rfl)⟩ rfl rfl dX8_boxesAreNear_4 rfl ⟨(Nat.le_of_ble_eq_true rfl), (Nat.le_of_ble_eq_true rfl)⟩ (Nat.le_of_ble_eq_true rfl) (by first | with_reducible assumption) rfl (c_gapN G hb _ b k nc np pl R hm pa sz ly vo ar X Y fc oc mp w3 T S q t n0 kd l1 l2 x3 x4 x5 x6 K h fr i hi j hj 0 (by decide) (by decide)) (fun v9 h9 y9 hq => v_pq hq ?_)
  refine v_iload_n dX8_boxesAreNear_7 rfl 3 rfl ?_
  refine v_icmp_ge (tgt := 26) dX8_boxesAreNear_8 (by decide) (fun c_8 => ?_) (fun c_8 => ?_)
  · refine v_iconst (v := 0) dX8_boxesAreNear_26 (by decide) ?_
    exact v_iret rfl dX8_boxesAreNear_27 (Nat.le_of_ble_eq_true rfl) (Nat.le_of_ble_eq_true rfl) rfl (by
          have cv0 : (iN (gp_ mp sz X Y (S.getD i ([], 0)) (S.getD j ([], 0)) 0) < li) ↔ gp_ mp sz X Y (S.getD i ([], 0)) (S.getD j ([], 0)) 0 < li.toInt := (by rw [Int32.lt_iff_toInt_lt, iN_to (by omega) (by omega)])
          have cv1 : (iN (gp_ mp sz X Y (S.getD i ([], 0)) (S.getD j ([], 0)) 1) < li) ↔ gp_ mp sz X Y (S.getD i ([], 0)) (S.getD j ([], 0)) 1 < li.toInt := (by rw [Int32.lt_iff_toInt_lt, iN_to (by omega) (by omega)])
          by_cases e9 : (gp_ mp sz X Y (S.getD i ([], 0)) (S.getD j ([], 0)) 0 < li.toInt ∧ gp_ mp sz X Y (S.getD i ([], 0)) (S.getD j ([], 0)) 1 < li.toInt)
          · rw [if_pos e9]
            first
              | exact ⟨rfl, rfl, rfl⟩
              | exact absurd (cv1.mpr e9.2) (Int32.not_lt.mpr c_19)
              | exact absurd (cv0.mpr e9.1) (Int32.not_lt.mpr c_8)
          · rw [if_neg e9]
            first
              | exact ⟨rfl, rfl, rfl⟩
              | exact (e9 ⟨cv0.mp (Int32.not_le.mp c_8), cv1.mp (Int32.not_le.mp c_19)⟩).elim)
  · refine v_aload_n dX8_boxesAreNear_11 rfl 0 rfl ?_
    refine v_iload_n dX8_boxesAreNear_12 rfl 1 rfl ?_
    refine v_iload_n dX8_boxesAreNear_13 rfl 2 rfl ?_
    refine v_iconst (v := 1) dX8_boxesAreNear_14 (by decide) ?_
    refine v_callVq (M' := mX8_gap) (n := 3) (As := [_, _, _]) (ci := 6) (r := (RX8, TX8, 14)) gX8_boxesAreNear_X8_gap rfl (by decide +kernel) ⟨(Nat.le_of_ble_eq_true rfl), (Nat.le_of_ble_eq_true rfl)⟩ rfl rfl dX8_boxesAreNear_15 rfl ⟨(Nat.le_of_ble_eq_true rfl), (Nat.le_of_ble_eq_true rfl)⟩ (Nat.le_of_ble_eq_true rfl) (by first | with_reducible assumption) rfl (c_gapN G hb _ b k nc np pl R hm pa sz ly vo ar X Y fc oc mp w3 T S q t n0 kd l1 l2 x3 x4 x5 x6 K h fr i hi j hj 1 (by decide) (by decide)) (fun v9 h9 y9 hq => v_pq hq ?_)
    refine v_iload_n dX8_boxesAreNear_18 rfl 3 rfl ?_
    refine v_icmp_ge (tgt := 26) dX8_boxesAreNear_19 (by decide) (fun c_19 => ?_) (fun c_19 => ?_)
    · refine v_iconst (v := 0) dX8_boxesAreNear_26 (by decide) ?_
      exact v_iret rfl dX8_boxesAreNear_27 (Nat.le_of_ble_eq_true rfl) (Nat.le_of_ble_eq_true rfl) rfl (by
            have cv0 : (iN (gp_ mp sz X Y (S.getD i ([], 0)) (S.getD j ([], 0)) 0) < li) ↔ gp_ mp sz X Y (S.getD i ([], 0)) (S.getD j ([], 0)) 0 < li.toInt := (by rw [Int32.lt_iff_toInt_lt, iN_to (by omega) (by omega)])
            have cv1 : (iN (gp_ mp sz X Y (S.getD i ([], 0)) (S.getD j ([], 0)) 1) < li) ↔ gp_ mp sz X Y (S.getD i ([], 0)) (S.getD j ([], 0)) 1 < li.toInt := (by rw [Int32.lt_iff_toInt_lt, iN_to (by omega) (by omega)])
            by_cases e9 : (gp_ mp sz X Y (S.getD i ([], 0)) (S.getD j ([], 0)) 0 < li.toInt ∧ gp_ mp sz X Y (S.getD i ([], 0)) (S.getD j ([], 0)) 1 < li.toInt)
            · rw [if_pos e9]
              first
                | exact ⟨rfl, rfl, rfl⟩
                | exact absurd (cv1.mpr e9.2) (Int32.not_lt.mpr c_19)
                | exact absurd (cv0.mpr e9.1) (Int32.not_lt.mpr c_8)
            · rw [if_neg e9]
              first
                | exact ⟨rfl, rfl, rfl⟩
                | exact (e9 ⟨cv0.mp (Int32.not_le.mp c_8), cv1.mp (Int32.not_le.mp c_19)⟩).elim)
    · refine v_iconst (v := 1) dX8_boxesAreNear_22 (by decide) ?_
      refine v_goto (tgt := 27) dX8_boxesAreNear_23 (by decide) ?_
      exact v_iret rfl dX8_boxesAreNear_27 (Nat.le_of_ble_eq_true rfl) (Nat.le_of_ble_eq_true rfl) rfl (by
            have cv0 : (iN (gp_ mp sz X Y (S.getD i ([], 0)) (S.getD j ([], 0)) 0) < li) ↔ gp_ mp sz X Y (S.getD i ([], 0)) (S.getD j ([], 0)) 0 < li.toInt := (by rw [Int32.lt_iff_toInt_lt, iN_to (by omega) (by omega)])
            have cv1 : (iN (gp_ mp sz X Y (S.getD i ([], 0)) (S.getD j ([], 0)) 1) < li) ↔ gp_ mp sz X Y (S.getD i ([], 0)) (S.getD j ([], 0)) 1 < li.toInt := (by rw [Int32.lt_iff_toInt_lt, iN_to (by omega) (by omega)])
            by_cases e9 : (gp_ mp sz X Y (S.getD i ([], 0)) (S.getD j ([], 0)) 0 < li.toInt ∧ gp_ mp sz X Y (S.getD i ([], 0)) (S.getD j ([], 0)) 1 < li.toInt)
            · rw [if_pos e9]
              first
                | exact ⟨rfl, rfl, rfl⟩
                | exact absurd (cv1.mpr e9.2) (Int32.not_lt.mpr c_19)
                | exact absurd (cv0.mpr e9.1) (Int32.not_lt.mpr c_8)
            · rw [if_neg e9]
              first
                | exact ⟨rfl, rfl, rfl⟩
                | exact (e9 ⟨cv0.mp (Int32.not_le.mp c_8), cv1.mp (Int32.not_le.mp c_19)⟩).elim)

set_option maxHeartbeats 4000000 in
set_option maxRecDepth 100000 in
theorem c_metHere (G : sv_G) (hb : sv_h) (z b : Nat) (k : Int32) (nc np pl : Nat) (R : Nat → Bool) (hm pa sz : Nat → Nat) (ly vo ar : Nat → Int32) (X Y : Nat → Nat → Int) (fc : Nat → Nat → Nat) (oc : Nat → Nat → Option Nat) (mp : Nat → mvT) (w3 : Bool) (T : List Nat × Nat → Nat → List (Int × Int × Int)) (S : List (List Nat × Nat)) (q t : Nat) (n0 : Int64) (kd : Nat) (l1 l2 x3 x4 x5 x6 : Int32) (K : ck_ G w3 b k nc np pl R hm pa sz ly vo ar X Y fc oc mp T S q t n0 kd l1 l2 x3 x4 x5 x6 hb) (h : sv_h) (fr : ∀ a, ¬ (t ≤ a ∧ a < t + 4) → h a = hb a) (i : Nat) (hi : i < S.length) (j : Nat) (hj : j < S.length) : CT G mX8_areMetHere [.ref (b + 35), .int (nI i), .int (nI j)] h z (fun v h1 z1 => v = some (.int (if (brn (S.getD i ([], 0)).1 = -1 ∨ ¬ brn (S.getD i ([], 0)).1 = brn (S.getD j ([], 0)).1) then 1 else 0)) ∧ h1 = h ∧ z1 = z) := by
  refine CT.of (by decide +kernel) rfl rfl (Nat.le_of_ble_eq_true rfl) ?_
  obtain ⟨Z, ⟨⟨fb, fcx, fcy, k1, k2, k3, k4⟩, ⟨fs9, fa, fr9, ft, k5, k6, k7, k8, k9, kA, kB⟩, ⟨fsp, kC⟩, _⟩, kD, kE, kF, kG, kH, kI⟩ := id K
  obtain ⟨z0, z1, ⟨fs, z2, z3⟩, ⟨fb_, z4, z5⟩, ⟨fl, z6, z7⟩, z8, z9, ⟨fq, zA, zB⟩, zC, zD, zE, zF⟩ := id Z
  have w1 := (fr (b + 35) (by omega)).trans z1
  have w2 : ab_I G h (b + 37) 100 fs := (fr _ (by omega)).trans z2
  have w4 : ab_I G h (b + 38) 100 fb_ := (fr _ (by omega)).trans z4
  have w6 : ab_Q G h (b + 39) 3 100 fl := (fr _ (by omega)).trans z6
  have w9 := (fr (b + 1) (by omega)).trans z9
  have wA : ab_Q G h (b + 2) 4 64 fq := (fr _ (by omega)).trans zA
  have wB : ab_I G h (b + 40) 400 fb := (fr _ (by omega)).trans k1
  have wC : ab_I G h (b + 44) 401 fs9 := (fr _ (by omega)).trans k5
  have wD : ab_I G h (b + 45) 1600 fa := (fr _ (by omega)).trans k6
  have wE : ab_I G h (b + 46) 1600 fr9 := (fr _ (by omega)).trans k7
  have wF : ab_I G h (b + 47) 1600 ft := (fr _ (by omega)).trans k8
  have wG := (fr (b + 32) (by omega)).trans kD
  have wH := (fr q (by omega)).trans kE
  refine v_aload_n dX8_areMetHere_0 rfl 0 rfl ?_
  refine v_getf 4 (ci := 6) (C := RX8) (T := TX8) (N := 14) rfl iwX8_areMetHere_X8 (Nat.le_of_ble_eq_true rfl) (by decide +kernel) dX8_areMetHere_1 (by first | with_reducible assumption) rfl ?_
  refine v_iload_n dX8_areMetHere_4 rfl 1 rfl ?_
  refine v_ialdS (v := brn (S.getD i ([], 0)).1) dX8_areMetHere_5 (by first | with_reducible assumption) (vp_in_nI (by omega) (by omega)) (by rw [nI_clamp (by omega)]; exact z5 i hi) ?_
  refine v_iconst (v := (-1)) dX8_areMetHere_6 (by decide) ?_
  refine v_icmp_eq (tgt := 25) dX8_areMetHere_7 (by decide) (fun c_7 => ?_) (fun c_7 => ?_)
  · refine v_iconst (v := 1) dX8_areMetHere_25 (by decide) ?_
    refine v_goto (tgt := 30) dX8_areMetHere_26 (by decide) ?_
    exact v_iret rfl dX8_areMetHere_30 (Nat.le_of_ble_eq_true rfl) (Nat.le_of_ble_eq_true rfl) rfl (by
          by_cases e9 : (brn (S.getD i ([], 0)).1 = -1 ∨ ¬ brn (S.getD i ([], 0)).1 = brn (S.getD j ([], 0)).1)
          · rw [if_pos e9]
            first
              | exact ⟨rfl, rfl, rfl⟩
              | exact absurd e9 (fun r => r.elim c_7 (fun r2 => r2 c_22))
          · rw [if_neg e9]
            first
              | exact ⟨rfl, rfl, rfl⟩
              | exact (e9 (Or.inl c_7)).elim
              | exact (e9 (Or.inr c_22)).elim)
  · refine v_aload_n dX8_areMetHere_10 rfl 0 rfl ?_
    refine v_getf 4 (ci := 6) (C := RX8) (T := TX8) (N := 14) rfl iwX8_areMetHere_X8 (Nat.le_of_ble_eq_true rfl) (by decide +kernel) dX8_areMetHere_11 (by first | with_reducible assumption) rfl ?_
    refine v_iload_n dX8_areMetHere_14 rfl 1 rfl ?_
    refine v_ialdS (v := brn (S.getD i ([], 0)).1) dX8_areMetHere_15 (by first | with_reducible assumption) (vp_in_nI (by omega) (by omega)) (by rw [nI_clamp (by omega)]; exact z5 i hi) ?_
    refine v_aload_n dX8_areMetHere_16 rfl 0 rfl ?_
    refine v_getf 4 (ci := 6) (C := RX8) (T := TX8) (N := 14) rfl iwX8_areMetHere_X8 (Nat.le_of_ble_eq_true rfl) (by decide +kernel) dX8_areMetHere_17 (by first | with_reducible assumption) rfl ?_
    refine v_iload_n dX8_areMetHere_20 rfl 2 rfl ?_
    refine v_ialdS (v := brn (S.getD j ([], 0)).1) dX8_areMetHere_21 (by first | with_reducible assumption) (vp_in_nI (by omega) (by omega)) (by rw [nI_clamp (by omega)]; exact z5 j hj) ?_
    refine v_icmp_eq (tgt := 29) dX8_areMetHere_22 (by decide) (fun c_22 => ?_) (fun c_22 => ?_)
    · refine v_iconst (v := 0) dX8_areMetHere_29 (by decide) ?_
      exact v_iret rfl dX8_areMetHere_30 (Nat.le_of_ble_eq_true rfl) (Nat.le_of_ble_eq_true rfl) rfl (by
            by_cases e9 : (brn (S.getD i ([], 0)).1 = -1 ∨ ¬ brn (S.getD i ([], 0)).1 = brn (S.getD j ([], 0)).1)
            · rw [if_pos e9]
              first
                | exact ⟨rfl, rfl, rfl⟩
                | exact absurd e9 (fun r => r.elim c_7 (fun r2 => r2 c_22))
            · rw [if_neg e9]
              first
                | exact ⟨rfl, rfl, rfl⟩
                | exact (e9 (Or.inl c_7)).elim
                | exact (e9 (Or.inr c_22)).elim)
    · refine v_iconst (v := 1) dX8_areMetHere_25 (by decide) ?_
      refine v_goto (tgt := 30) dX8_areMetHere_26 (by decide) ?_
      exact v_iret rfl dX8_areMetHere_30 (Nat.le_of_ble_eq_true rfl) (Nat.le_of_ble_eq_true rfl) rfl (by
            by_cases e9 : (brn (S.getD i ([], 0)).1 = -1 ∨ ¬ brn (S.getD i ([], 0)).1 = brn (S.getD j ([], 0)).1)
            · rw [if_pos e9]
              first
                | exact ⟨rfl, rfl, rfl⟩
                | exact absurd e9 (fun r => r.elim c_7 (fun r2 => r2 c_22))
            · rw [if_neg e9]
              first
                | exact ⟨rfl, rfl, rfl⟩
                | exact (e9 (Or.inl c_7)).elim
                | exact (e9 (Or.inr c_22)).elim)

set_option maxHeartbeats 4000000 in
set_option maxRecDepth 100000 in
theorem c_isBetween (G : sv_G) (h : sv_h) (z q : Nat) (n0 : Int64) (kd : Nat) (l1 l2 x3 x4 x5 x6 : Int32) (hr : h q = some (.inr (5, [.long n0, .ref (G.2.2.2.2.1 kd), .int l1, .int l2, .int x3, .int x4, .int x5, .int x6]))) (la lb : Int32) : CT G mX7_isBetween [.ref q, .int la, .int lb] h z (fun v h1 z1 => v = some (.int (if ((la = l1 ∧ lb = l2) ∨ (la = l2 ∧ lb = l1)) then 1 else 0)) ∧ h1 = h ∧ z1 = z) := by
  refine CT.of (by decide +kernel) rfl rfl (Nat.le_of_ble_eq_true rfl) ?_
  refine v_iload_n dX7_isBetween_0 rfl 1 rfl ?_
  refine v_aload_n dX7_isBetween_1 rfl 0 rfl ?_
  refine v_getf 2 (ci := 5) (C := RX7) (T := TX7) (N := 8) rfl iwX7_isBetween_X7 (Nat.le_of_ble_eq_true rfl) (by decide +kernel) dX7_isBetween_2 (by first | with_reducible assumption) rfl ?_
  refine v_icmp_ne (tgt := 16) dX7_isBetween_5 (by decide) (fun c_5 => ?_) (fun c_5 => ?_)
  · refine v_iload_n dX7_isBetween_16 rfl 1 rfl ?_
    refine v_aload_n dX7_isBetween_17 rfl 0 rfl ?_
    refine v_getf 3 (ci := 5) (C := RX7) (T := TX7) (N := 8) rfl iwX7_isBetween_X7 (Nat.le_of_ble_eq_true rfl) (by decide +kernel) dX7_isBetween_18 (by first | with_reducible assumption) rfl ?_
    refine v_icmp_ne (tgt := 36) dX7_isBetween_21 (by decide) (fun c_21 => ?_) (fun c_21 => ?_)
    · refine v_iconst (v := 0) dX7_isBetween_36 (by decide) ?_
      exact v_iret rfl dX7_isBetween_37 (Nat.le_of_ble_eq_true rfl) (Nat.le_of_ble_eq_true rfl) rfl (by
            by_cases e9 : ((la = l1 ∧ lb = l2) ∨ (la = l2 ∧ lb = l1))
            · rw [if_pos e9]
              first
                | exact ⟨rfl, rfl, rfl⟩
                | (rcases e9 with ⟨g1, g2⟩ | ⟨g1, g2⟩
                   · first
                     | exact absurd g1 c_5
                     | exact absurd g2 c_13
                   · first
                     | exact absurd g1 c_21
                     | exact absurd g2 c_29)
            · rw [if_neg e9]
              first
                | exact ⟨rfl, rfl, rfl⟩
                | exact (e9 (Or.inl ⟨c_5, c_13⟩)).elim
                | exact (e9 (Or.inr ⟨c_21, c_29⟩)).elim)
    · refine v_iload_n dX7_isBetween_24 rfl 2 rfl ?_
      refine v_aload_n dX7_isBetween_25 rfl 0 rfl ?_
      refine v_getf 2 (ci := 5) (C := RX7) (T := TX7) (N := 8) rfl iwX7_isBetween_X7 (Nat.le_of_ble_eq_true rfl) (by decide +kernel) dX7_isBetween_26 (by first | with_reducible assumption) rfl ?_
      refine v_icmp_ne (tgt := 36) dX7_isBetween_29 (by decide) (fun c_29 => ?_) (fun c_29 => ?_)
      · refine v_iconst (v := 0) dX7_isBetween_36 (by decide) ?_
        exact v_iret rfl dX7_isBetween_37 (Nat.le_of_ble_eq_true rfl) (Nat.le_of_ble_eq_true rfl) rfl (by
              by_cases e9 : ((la = l1 ∧ lb = l2) ∨ (la = l2 ∧ lb = l1))
              · rw [if_pos e9]
                first
                  | exact ⟨rfl, rfl, rfl⟩
                  | (rcases e9 with ⟨g1, g2⟩ | ⟨g1, g2⟩
                     · first
                       | exact absurd g1 c_5
                       | exact absurd g2 c_13
                     · first
                       | exact absurd g1 c_21
                       | exact absurd g2 c_29)
              · rw [if_neg e9]
                first
                  | exact ⟨rfl, rfl, rfl⟩
                  | exact (e9 (Or.inl ⟨c_5, c_13⟩)).elim
                  | exact (e9 (Or.inr ⟨c_21, c_29⟩)).elim)
      · refine v_iconst (v := 1) dX7_isBetween_32 (by decide) ?_
        refine v_goto (tgt := 37) dX7_isBetween_33 (by decide) ?_
        exact v_iret rfl dX7_isBetween_37 (Nat.le_of_ble_eq_true rfl) (Nat.le_of_ble_eq_true rfl) rfl (by
              by_cases e9 : ((la = l1 ∧ lb = l2) ∨ (la = l2 ∧ lb = l1))
              · rw [if_pos e9]
                first
                  | exact ⟨rfl, rfl, rfl⟩
                  | (rcases e9 with ⟨g1, g2⟩ | ⟨g1, g2⟩
                     · first
                       | exact absurd g1 c_5
                       | exact absurd g2 c_13
                     · first
                       | exact absurd g1 c_21
                       | exact absurd g2 c_29)
              · rw [if_neg e9]
                first
                  | exact ⟨rfl, rfl, rfl⟩
                  | exact (e9 (Or.inl ⟨c_5, c_13⟩)).elim
                  | exact (e9 (Or.inr ⟨c_21, c_29⟩)).elim)
  · refine v_iload_n dX7_isBetween_8 rfl 2 rfl ?_
    refine v_aload_n dX7_isBetween_9 rfl 0 rfl ?_
    refine v_getf 3 (ci := 5) (C := RX7) (T := TX7) (N := 8) rfl iwX7_isBetween_X7 (Nat.le_of_ble_eq_true rfl) (by decide +kernel) dX7_isBetween_10 (by first | with_reducible assumption) rfl ?_
    refine v_icmp_eq (tgt := 32) dX7_isBetween_13 (by decide) (fun c_13 => ?_) (fun c_13 => ?_)
    · refine v_iconst (v := 1) dX7_isBetween_32 (by decide) ?_
      refine v_goto (tgt := 37) dX7_isBetween_33 (by decide) ?_
      exact v_iret rfl dX7_isBetween_37 (Nat.le_of_ble_eq_true rfl) (Nat.le_of_ble_eq_true rfl) rfl (by
            by_cases e9 : ((la = l1 ∧ lb = l2) ∨ (la = l2 ∧ lb = l1))
            · rw [if_pos e9]
              first
                | exact ⟨rfl, rfl, rfl⟩
                | (rcases e9 with ⟨g1, g2⟩ | ⟨g1, g2⟩
                   · first
                     | exact absurd g1 c_5
                     | exact absurd g2 c_13
                   · first
                     | exact absurd g1 c_21
                     | exact absurd g2 c_29)
            · rw [if_neg e9]
              first
                | exact ⟨rfl, rfl, rfl⟩
                | exact (e9 (Or.inl ⟨c_5, c_13⟩)).elim
                | exact (e9 (Or.inr ⟨c_21, c_29⟩)).elim)
    · refine v_iload_n dX7_isBetween_16 rfl 1 rfl ?_
      refine v_aload_n dX7_isBetween_17 rfl 0 rfl ?_
      refine v_getf 3 (ci := 5) (C := RX7) (T := TX7) (N := 8) rfl iwX7_isBetween_X7 (Nat.le_of_ble_eq_true rfl) (by decide +kernel) dX7_isBetween_18 (by first | with_reducible assumption) rfl ?_
      refine v_icmp_ne (tgt := 36) dX7_isBetween_21 (by decide) (fun c_21 => ?_) (fun c_21 => ?_)
      · refine v_iconst (v := 0) dX7_isBetween_36 (by decide) ?_
        exact v_iret rfl dX7_isBetween_37 (Nat.le_of_ble_eq_true rfl) (Nat.le_of_ble_eq_true rfl) rfl (by
              by_cases e9 : ((la = l1 ∧ lb = l2) ∨ (la = l2 ∧ lb = l1))
              · rw [if_pos e9]
                first
                  | exact ⟨rfl, rfl, rfl⟩
                  | (rcases e9 with ⟨g1, g2⟩ | ⟨g1, g2⟩
                     · first
                       | exact absurd g1 c_5
                       | exact absurd g2 c_13
                     · first
                       | exact absurd g1 c_21
                       | exact absurd g2 c_29)
              · rw [if_neg e9]
                first
                  | exact ⟨rfl, rfl, rfl⟩
                  | exact (e9 (Or.inl ⟨c_5, c_13⟩)).elim
                  | exact (e9 (Or.inr ⟨c_21, c_29⟩)).elim)
      · refine v_iload_n dX7_isBetween_24 rfl 2 rfl ?_
        refine v_aload_n dX7_isBetween_25 rfl 0 rfl ?_
        refine v_getf 2 (ci := 5) (C := RX7) (T := TX7) (N := 8) rfl iwX7_isBetween_X7 (Nat.le_of_ble_eq_true rfl) (by decide +kernel) dX7_isBetween_26 (by first | with_reducible assumption) rfl ?_
        refine v_icmp_ne (tgt := 36) dX7_isBetween_29 (by decide) (fun c_29 => ?_) (fun c_29 => ?_)
        · refine v_iconst (v := 0) dX7_isBetween_36 (by decide) ?_
          exact v_iret rfl dX7_isBetween_37 (Nat.le_of_ble_eq_true rfl) (Nat.le_of_ble_eq_true rfl) rfl (by
                by_cases e9 : ((la = l1 ∧ lb = l2) ∨ (la = l2 ∧ lb = l1))
                · rw [if_pos e9]
                  first
                    | exact ⟨rfl, rfl, rfl⟩
                    | (rcases e9 with ⟨g1, g2⟩ | ⟨g1, g2⟩
                       · first
                         | exact absurd g1 c_5
                         | exact absurd g2 c_13
                       · first
                         | exact absurd g1 c_21
                         | exact absurd g2 c_29)
                · rw [if_neg e9]
                  first
                    | exact ⟨rfl, rfl, rfl⟩
                    | exact (e9 (Or.inl ⟨c_5, c_13⟩)).elim
                    | exact (e9 (Or.inr ⟨c_21, c_29⟩)).elim)
        · refine v_iconst (v := 1) dX7_isBetween_32 (by decide) ?_
          refine v_goto (tgt := 37) dX7_isBetween_33 (by decide) ?_
          exact v_iret rfl dX7_isBetween_37 (Nat.le_of_ble_eq_true rfl) (Nat.le_of_ble_eq_true rfl) rfl (by
                by_cases e9 : ((la = l1 ∧ lb = l2) ∨ (la = l2 ∧ lb = l1))
                · rw [if_pos e9]
                  first
                    | exact ⟨rfl, rfl, rfl⟩
                    | (rcases e9 with ⟨g1, g2⟩ | ⟨g1, g2⟩
                       · first
                         | exact absurd g1 c_5
                         | exact absurd g2 c_13
                       · first
                         | exact absurd g1 c_21
                         | exact absurd g2 c_29)
                · rw [if_neg e9]
                  first
                    | exact ⟨rfl, rfl, rfl⟩
                    | exact (e9 (Or.inl ⟨c_5, c_13⟩)).elim
                    | exact (e9 (Or.inr ⟨c_21, c_29⟩)).elim)

set_option maxHeartbeats 4000000 in
set_option maxRecDepth 100000 in
theorem c_onBoth (G : sv_G) (hb : sv_h) (z b : Nat) (k : Int32) (nc np pl : Nat) (R : Nat → Bool) (hm pa sz : Nat → Nat) (ly vo ar : Nat → Int32) (X Y : Nat → Nat → Int) (fc : Nat → Nat → Nat) (oc : Nat → Nat → Option Nat) (mp : Nat → mvT) (w3 : Bool) (T : List Nat × Nat → Nat → List (Int × Int × Int)) (S : List (List Nat × Nat)) (q t : Nat) (n0 : Int64) (kd : Nat) (l1 l2 x3 x4 x5 x6 : Int32) (K : ck_ G w3 b k nc np pl R hm pa sz ly vo ar X Y fc oc mp T S q t n0 kd l1 l2 x3 x4 x5 x6 hb) (h : sv_h) (fr : ∀ a, ¬ (t ≤ a ∧ a < t + 4) → h a = hb a) (i : Nat) (hi : i < S.length) (j : Nat) (hj : j < S.length) : CT G mX1_areOnBothLayers [.ref (b + 32), .int (nI i), .int (nI j)] h z (fun v h1 z1 => v = some (.int (if ((ly (S.getD i ([], 0)).2 = l1 ∧ ly (S.getD j ([], 0)).2 = l2) ∨ (ly (S.getD i ([], 0)).2 = l2 ∧ ly (S.getD j ([], 0)).2 = l1)) then 1 else 0)) ∧ h1 = h ∧ z1 = z) := by
  refine CT.of (by decide +kernel) rfl rfl (Nat.le_of_ble_eq_true rfl) ?_
  obtain ⟨Z, ⟨⟨fb, fcx, fcy, k1, k2, k3, k4⟩, ⟨fs9, fa, fr9, ft, k5, k6, k7, k8, k9, kA, kB⟩, ⟨fsp, kC⟩, _⟩, kD, kE, kF, kG, kH, kI⟩ := id K
  obtain ⟨z0, z1, ⟨fs, z2, z3⟩, ⟨fb_, z4, z5⟩, ⟨fl, z6, z7⟩, z8, z9, ⟨fq, zA, zB⟩, zC, zD, zE, zF⟩ := id Z
  have w1 := (fr (b + 35) (by omega)).trans z1
  have w2 : ab_I G h (b + 37) 100 fs := (fr _ (by omega)).trans z2
  have w4 : ab_I G h (b + 38) 100 fb_ := (fr _ (by omega)).trans z4
  have w6 : ab_Q G h (b + 39) 3 100 fl := (fr _ (by omega)).trans z6
  have w9 := (fr (b + 1) (by omega)).trans z9
  have wA : ab_Q G h (b + 2) 4 64 fq := (fr _ (by omega)).trans zA
  have wB : ab_I G h (b + 40) 400 fb := (fr _ (by omega)).trans k1
  have wC : ab_I G h (b + 44) 401 fs9 := (fr _ (by omega)).trans k5
  have wD : ab_I G h (b + 45) 1600 fa := (fr _ (by omega)).trans k6
  have wE : ab_I G h (b + 46) 1600 fr9 := (fr _ (by omega)).trans k7
  have wF : ab_I G h (b + 47) 1600 ft := (fr _ (by omega)).trans k8
  have wG := (fr (b + 32) (by omega)).trans kD
  have wH := (fr q (by omega)).trans kE
  obtain ⟨c1i, c2i⟩ := zC _ (zE i hi).1
  have p1i := (fr (pa (S.getD i ([], 0)).2) (by omega)).trans c1i
  obtain ⟨c1j, c2j⟩ := zC _ (zE j hj).1
  have p1j := (fr (pa (S.getD j ([], 0)).2) (by omega)).trans c1j
  refine v_aload_n dX1_areOnBothLayers_0 rfl 0 rfl ?_
  refine v_getf 4 (ci := 0) (C := RX1) (T := TX1) (N := 6) rfl iwX1_areOnBothLayers_X1 (Nat.le_of_ble_eq_true rfl) (by decide +kernel) dX1_areOnBothLayers_1 (by first | with_reducible assumption) rfl ?_
  refine v_aload_n dX1_areOnBothLayers_4 rfl 0 rfl ?_
  refine v_getf 1 (ci := 0) (C := RX1) (T := TX1) (N := 6) rfl iwX1_areOnBothLayers_X1 (Nat.le_of_ble_eq_true rfl) (by decide +kernel) dX1_areOnBothLayers_5 (by first | with_reducible assumption) rfl ?_
  refine v_iload_n dX1_areOnBothLayers_8 rfl 1 rfl ?_
  refine v_callVq (M' := mX8_polygonOf) (n := 1) (As := [_]) (ci := 6) (r := (RX8, TX8, 14)) gX1_areOnBothLayers_X8_polygonOf rfl (by decide +kernel) ⟨(Nat.le_of_ble_eq_true rfl), (Nat.le_of_ble_eq_true rfl)⟩ rfl rfl dX1_areOnBothLayers_9 rfl ⟨(Nat.le_of_ble_eq_true rfl), (Nat.le_of_ble_eq_true rfl)⟩ (Nat.le_of_ble_eq_true rfl) (by first | with_reducible assumption) rfl (c_polyK G hb _ b k nc np pl R hm pa sz ly vo ar X Y fc oc mp w3 T S q t n0 kd l1 l2 x3 x4 x5 x6 K h fr i hi) (fun v9 h9 y9 hq => v_pq hq ?_)
  refine v_getf 1 (ci := 3) (C := RX5) (T := TX5) (N := 10) rfl iwX1_areOnBothLayers_X5 (Nat.le_of_ble_eq_true rfl) (by decide +kernel) dX1_areOnBothLayers_12 (by first | with_reducible assumption) rfl ?_
  refine v_aload_n dX1_areOnBothLayers_15 rfl 0 rfl ?_
  refine v_getf 1 (ci := 0) (C := RX1) (T := TX1) (N := 6) rfl iwX1_areOnBothLayers_X1 (Nat.le_of_ble_eq_true rfl) (by decide +kernel) dX1_areOnBothLayers_16 (by first | with_reducible assumption) rfl ?_
  refine v_iload_n dX1_areOnBothLayers_19 rfl 2 rfl ?_
  refine v_callVq (M' := mX8_polygonOf) (n := 1) (As := [_]) (ci := 6) (r := (RX8, TX8, 14)) gX1_areOnBothLayers_X8_polygonOf rfl (by decide +kernel) ⟨(Nat.le_of_ble_eq_true rfl), (Nat.le_of_ble_eq_true rfl)⟩ rfl rfl dX1_areOnBothLayers_20 rfl ⟨(Nat.le_of_ble_eq_true rfl), (Nat.le_of_ble_eq_true rfl)⟩ (Nat.le_of_ble_eq_true rfl) (by first | with_reducible assumption) rfl (c_polyK G hb _ b k nc np pl R hm pa sz ly vo ar X Y fc oc mp w3 T S q t n0 kd l1 l2 x3 x4 x5 x6 K h fr j hj) (fun v9 h9 y9 hq => v_pq hq ?_)
  refine v_getf 1 (ci := 3) (C := RX5) (T := TX5) (N := 10) rfl iwX1_areOnBothLayers_X5 (Nat.le_of_ble_eq_true rfl) (by decide +kernel) dX1_areOnBothLayers_23 (by first | with_reducible assumption) rfl ?_
  refine v_callVq (M' := mX7_isBetween) (n := 2) (As := [_, _]) (ci := 5) (r := (RX7, TX7, 8)) gX1_areOnBothLayers_X7_isBetween rfl (by decide +kernel) ⟨(Nat.le_of_ble_eq_true rfl), (Nat.le_of_ble_eq_true rfl)⟩ rfl rfl dX1_areOnBothLayers_26 rfl ⟨(Nat.le_of_ble_eq_true rfl), (Nat.le_of_ble_eq_true rfl)⟩ (Nat.le_of_ble_eq_true rfl) (by first | with_reducible assumption) rfl (c_isBetween G _ _ q n0 kd l1 l2 x3 x4 x5 x6 wH _ _) (fun v9 h9 y9 hq => v_pq hq ?_)
  exact v_iret rfl dX1_areOnBothLayers_29 (Nat.le_of_ble_eq_true rfl) (Nat.le_of_ble_eq_true rfl) (by split <;> rfl) ⟨rfl, rfl, rfl⟩

set_option maxHeartbeats 4000000 in
set_option maxRecDepth 100000 in
theorem c_areNear (G : sv_G) (hb : sv_h) (z b : Nat) (k : Int32) (nc np pl : Nat) (R : Nat → Bool) (hm pa sz : Nat → Nat) (ly vo ar : Nat → Int32) (X Y : Nat → Nat → Int) (fc : Nat → Nat → Nat) (oc : Nat → Nat → Option Nat) (mp : Nat → mvT) (w3 : Bool) (T : List Nat × Nat → Nat → List (Int × Int × Int)) (S : List (List Nat × Nat)) (q t : Nat) (n0 : Int64) (kd : Nat) (l1 l2 x3 x4 x5 x6 : Int32) (K : ck_ G w3 b k nc np pl R hm pa sz ly vo ar X Y fc oc mp T S q t n0 kd l1 l2 x3 x4 x5 x6 hb) (h : sv_h) (fr : ∀ a, ¬ (t ≤ a ∧ a < t + 4) → h a = hb a) (i : Nat) (hi : i < S.length) (j : Nat) (hj : j < S.length) : CT G mX1_areNear [.ref (b + 32), .int (nI i), .int (nI j)] h z (fun v h1 z1 => v = some (.int (if (((ly (S.getD i ([], 0)).2 = l1 ∧ ly (S.getD j ([], 0)).2 = l2) ∨ (ly (S.getD i ([], 0)).2 = l2 ∧ ly (S.getD j ([], 0)).2 = l1)) ∧ (gp_ mp sz X Y (S.getD i ([], 0)) (S.getD j ([], 0)) 0 < x3.toInt ∧ gp_ mp sz X Y (S.getD i ([], 0)) (S.getD j ([], 0)) 1 < x3.toInt) ∧ (x5 = -1 ∨ ¬ (if 0 ≤ (vo (S.getD i ([], 0)).2 - vo (S.getD j ([], 0)).2) then (vo (S.getD i ([], 0)).2 - vo (S.getD j ([], 0)).2) else 0 - (vo (S.getD i ([], 0)).2 - vo (S.getD j ([], 0)).2)) < x5)) then 1 else 0)) ∧ h1 = h ∧ z1 = z) := by
  refine CT.of (by decide +kernel) rfl rfl (Nat.le_of_ble_eq_true rfl) ?_
  obtain ⟨Z, ⟨⟨fb, fcx, fcy, k1, k2, k3, k4⟩, ⟨fs9, fa, fr9, ft, k5, k6, k7, k8, k9, kA, kB⟩, ⟨fsp, kC⟩, _⟩, kD, kE, kF, kG, kH, kI⟩ := id K
  obtain ⟨z0, z1, ⟨fs, z2, z3⟩, ⟨fb_, z4, z5⟩, ⟨fl, z6, z7⟩, z8, z9, ⟨fq, zA, zB⟩, zC, zD, zE, zF⟩ := id Z
  have w1 := (fr (b + 35) (by omega)).trans z1
  have w2 : ab_I G h (b + 37) 100 fs := (fr _ (by omega)).trans z2
  have w4 : ab_I G h (b + 38) 100 fb_ := (fr _ (by omega)).trans z4
  have w6 : ab_Q G h (b + 39) 3 100 fl := (fr _ (by omega)).trans z6
  have w9 := (fr (b + 1) (by omega)).trans z9
  have wA : ab_Q G h (b + 2) 4 64 fq := (fr _ (by omega)).trans zA
  have wB : ab_I G h (b + 40) 400 fb := (fr _ (by omega)).trans k1
  have wC : ab_I G h (b + 44) 401 fs9 := (fr _ (by omega)).trans k5
  have wD : ab_I G h (b + 45) 1600 fa := (fr _ (by omega)).trans k6
  have wE : ab_I G h (b + 46) 1600 fr9 := (fr _ (by omega)).trans k7
  have wF : ab_I G h (b + 47) 1600 ft := (fr _ (by omega)).trans k8
  have wG := (fr (b + 32) (by omega)).trans kD
  have wH := (fr q (by omega)).trans kE
  obtain ⟨c1i, c2i⟩ := zC _ (zE i hi).1
  have p1i := (fr (pa (S.getD i ([], 0)).2) (by omega)).trans c1i
  obtain ⟨c1j, c2j⟩ := zC _ (zE j hj).1
  have p1j := (fr (pa (S.getD j ([], 0)).2) (by omega)).trans c1j
  refine v_aload_n dX1_areNear_0 rfl 0 rfl ?_
  refine v_iload_n dX1_areNear_1 rfl 1 rfl ?_
  refine v_iload_n dX1_areNear_2 rfl 2 rfl ?_
  refine v_callVq (M' := mX1_areOnBothLayers) (n := 2) (As := [_, _]) (ci := 0) (r := (RX1, TX1, 6)) gX1_areNear_X1_areOnBothLayers rfl (by decide +kernel) ⟨(Nat.le_of_ble_eq_true rfl), (Nat.le_of_ble_eq_true rfl)⟩ rfl rfl dX1_areNear_3 rfl ⟨(Nat.le_of_ble_eq_true rfl), (Nat.le_of_ble_eq_true rfl)⟩ (Nat.le_of_ble_eq_true rfl) (by first | with_reducible assumption) rfl (c_onBoth G hb _ b k nc np pl R hm pa sz ly vo ar X Y fc oc mp w3 T S q t n0 kd l1 l2 x3 x4 x5 x6 K h fr i hi j hj) (fun v9 h9 y9 hq => v_pq hq ?_)
  refine v_if_eq (tgt := 28) dX1_areNear_6 (by decide) (fun c_6 => ?_) (fun c_6 => ?_)
  · refine v_iconst (v := 0) dX1_areNear_28 (by decide) ?_
    exact v_iret rfl dX1_areNear_29 (Nat.le_of_ble_eq_true rfl) (Nat.le_of_ble_eq_true rfl) rfl (by
          by_cases e9 : (((ly (S.getD i ([], 0)).2 = l1 ∧ ly (S.getD j ([], 0)).2 = l2) ∨ (ly (S.getD i ([], 0)).2 = l2 ∧ ly (S.getD j ([], 0)).2 = l1)) ∧ (gp_ mp sz X Y (S.getD i ([], 0)) (S.getD j ([], 0)) 0 < x3.toInt ∧ gp_ mp sz X Y (S.getD i ([], 0)) (S.getD j ([], 0)) 1 < x3.toInt) ∧ (x5 = -1 ∨ ¬ (if 0 ≤ (vo (S.getD i ([], 0)).2 - vo (S.getD j ([], 0)).2) then (vo (S.getD i ([], 0)).2 - vo (S.getD j ([], 0)).2) else 0 - (vo (S.getD i ([], 0)).2 - vo (S.getD j ([], 0)).2)) < x5))
          · rw [if_pos e9]
            first
              | exact ⟨rfl, rfl, rfl⟩
              | exact absurd e9.1 (sv_ift c_6)
              | exact absurd e9.2.1 (sv_ift c_25)
              | exact absurd e9.2.2 (fun r => r.elim c_62 (fun r2 => r2 c_76))
          · rw [if_neg e9]
            first
              | exact ⟨rfl, rfl, rfl⟩
              | exact (e9 ⟨sv_ifn c_6, sv_ifn c_25, Or.inl c_62⟩).elim
              | exact (e9 ⟨sv_ifn c_6, sv_ifn c_25, Or.inr c_76⟩).elim)
  · refine v_aload_n dX1_areNear_9 rfl 0 rfl ?_
    refine v_getf 1 (ci := 0) (C := RX1) (T := TX1) (N := 6) rfl iwX1_areNear_X1 (Nat.le_of_ble_eq_true rfl) (by decide +kernel) dX1_areNear_10 (by first | with_reducible assumption) rfl ?_
    refine v_iload_n dX1_areNear_13 rfl 1 rfl ?_
    refine v_iload_n dX1_areNear_14 rfl 2 rfl ?_
    refine v_aload_n dX1_areNear_15 rfl 0 rfl ?_
    refine v_getf 4 (ci := 0) (C := RX1) (T := TX1) (N := 6) rfl iwX1_areNear_X1 (Nat.le_of_ble_eq_true rfl) (by decide +kernel) dX1_areNear_16 (by first | with_reducible assumption) rfl ?_
    refine v_getf 4 (ci := 5) (C := RX7) (T := TX7) (N := 8) rfl iwX1_areNear_X7 (Nat.le_of_ble_eq_true rfl) (by decide +kernel) dX1_areNear_19 (by first | with_reducible assumption) rfl ?_
    refine v_callVq (M' := mX8_boxesAreNear) (n := 3) (As := [_, _, _]) (ci := 6) (r := (RX8, TX8, 14)) gX1_areNear_X8_boxesAreNear rfl (by decide +kernel) ⟨(Nat.le_of_ble_eq_true rfl), (Nat.le_of_ble_eq_true rfl)⟩ rfl rfl dX1_areNear_22 rfl ⟨(Nat.le_of_ble_eq_true rfl), (Nat.le_of_ble_eq_true rfl)⟩ (Nat.le_of_ble_eq_true rfl) (by first | with_reducible assumption) rfl (c_boxesAreNear G hb _ b k nc np pl R hm pa sz ly vo ar X Y fc oc mp w3 T S q t n0 kd l1 l2 x3 x4 x5 x6 K h fr i hi j hj x3) (fun v9 h9 y9 hq => v_pq hq ?_)
    refine v_if_ne (tgt := 30) dX1_areNear_25 (by decide) (fun c_25 => ?_) (fun c_25 => ?_)
    · refine v_aload_n dX1_areNear_30 rfl 0 rfl ?_
      refine v_getf 1 (ci := 0) (C := RX1) (T := TX1) (N := 6) rfl iwX1_areNear_X1 (Nat.le_of_ble_eq_true rfl) (by decide +kernel) dX1_areNear_31 (by first | with_reducible assumption) rfl ?_
      refine v_iload_n dX1_areNear_34 rfl 1 rfl ?_
      refine v_callVq (M' := mX8_polygonOf) (n := 1) (As := [_]) (ci := 6) (r := (RX8, TX8, 14)) gX1_areNear_X8_polygonOf rfl (by decide +kernel) ⟨(Nat.le_of_ble_eq_true rfl), (Nat.le_of_ble_eq_true rfl)⟩ rfl rfl dX1_areNear_35 rfl ⟨(Nat.le_of_ble_eq_true rfl), (Nat.le_of_ble_eq_true rfl)⟩ (Nat.le_of_ble_eq_true rfl) (by first | with_reducible assumption) rfl (c_polyK G hb _ b k nc np pl R hm pa sz ly vo ar X Y fc oc mp w3 T S q t n0 kd l1 l2 x3 x4 x5 x6 K h fr i hi) (fun v9 h9 y9 hq => v_pq hq ?_)
      refine v_getf 5 (ci := 3) (C := RX5) (T := TX5) (N := 10) rfl iwX1_areNear_X5 (Nat.le_of_ble_eq_true rfl) (by decide +kernel) dX1_areNear_38 (by first | with_reducible assumption) rfl ?_
      refine v_aload_n dX1_areNear_41 rfl 0 rfl ?_
      refine v_getf 1 (ci := 0) (C := RX1) (T := TX1) (N := 6) rfl iwX1_areNear_X1 (Nat.le_of_ble_eq_true rfl) (by decide +kernel) dX1_areNear_42 (by first | with_reducible assumption) rfl ?_
      refine v_iload_n dX1_areNear_45 rfl 2 rfl ?_
      refine v_callVq (M' := mX8_polygonOf) (n := 1) (As := [_]) (ci := 6) (r := (RX8, TX8, 14)) gX1_areNear_X8_polygonOf rfl (by decide +kernel) ⟨(Nat.le_of_ble_eq_true rfl), (Nat.le_of_ble_eq_true rfl)⟩ rfl rfl dX1_areNear_46 rfl ⟨(Nat.le_of_ble_eq_true rfl), (Nat.le_of_ble_eq_true rfl)⟩ (Nat.le_of_ble_eq_true rfl) (by first | with_reducible assumption) rfl (c_polyK G hb _ b k nc np pl R hm pa sz ly vo ar X Y fc oc mp w3 T S q t n0 kd l1 l2 x3 x4 x5 x6 K h fr j hj) (fun v9 h9 y9 hq => v_pq hq ?_)
      refine v_getf 5 (ci := 3) (C := RX5) (T := TX5) (N := 10) rfl iwX1_areNear_X5 (Nat.le_of_ble_eq_true rfl) (by decide +kernel) dX1_areNear_49 (by first | with_reducible assumption) rfl ?_
      refine v_isub dX1_areNear_52 ?_
      refine v_istore_n (L' := [(3, _), (0, _), (1, _), (2, _)]) dX1_areNear_53 rfl (Nat.le_of_ble_eq_true rfl) rfl ?_
      refine v_aload_n dX1_areNear_54 rfl 1 rfl ?_
      refine v_getf 4 (ci := 0) (C := RX1) (T := TX1) (N := 6) rfl iwX1_areNear_X1 (Nat.le_of_ble_eq_true rfl) (by decide +kernel) dX1_areNear_55 (by first | with_reducible assumption) rfl ?_
      refine v_getf 6 (ci := 5) (C := RX7) (T := TX7) (N := 8) rfl iwX1_areNear_X7 (Nat.le_of_ble_eq_true rfl) (by decide +kernel) dX1_areNear_58 (by first | with_reducible assumption) rfl ?_
      refine v_iconst (v := (-1)) dX1_areNear_61 (by decide) ?_
      refine v_icmp_eq (tgt := 79) dX1_areNear_62 (by decide) (fun c_62 => ?_) (fun c_62 => ?_)
      · refine v_iconst (v := 1) dX1_areNear_79 (by decide) ?_
        refine v_goto (tgt := 84) dX1_areNear_80 (by decide) ?_
        exact v_iret rfl dX1_areNear_84 (Nat.le_of_ble_eq_true rfl) (Nat.le_of_ble_eq_true rfl) rfl (by
              by_cases e9 : (((ly (S.getD i ([], 0)).2 = l1 ∧ ly (S.getD j ([], 0)).2 = l2) ∨ (ly (S.getD i ([], 0)).2 = l2 ∧ ly (S.getD j ([], 0)).2 = l1)) ∧ (gp_ mp sz X Y (S.getD i ([], 0)) (S.getD j ([], 0)) 0 < x3.toInt ∧ gp_ mp sz X Y (S.getD i ([], 0)) (S.getD j ([], 0)) 1 < x3.toInt) ∧ (x5 = -1 ∨ ¬ (if 0 ≤ (vo (S.getD i ([], 0)).2 - vo (S.getD j ([], 0)).2) then (vo (S.getD i ([], 0)).2 - vo (S.getD j ([], 0)).2) else 0 - (vo (S.getD i ([], 0)).2 - vo (S.getD j ([], 0)).2)) < x5))
              · rw [if_pos e9]
                first
                  | exact ⟨rfl, rfl, rfl⟩
                  | exact absurd e9.1 (sv_ift c_6)
                  | exact absurd e9.2.1 (sv_ift c_25)
                  | exact absurd e9.2.2 (fun r => r.elim c_62 (fun r2 => r2 c_76))
              · rw [if_neg e9]
                first
                  | exact ⟨rfl, rfl, rfl⟩
                  | exact (e9 ⟨sv_ifn c_6, sv_ifn c_25, Or.inl c_62⟩).elim
                  | exact (e9 ⟨sv_ifn c_6, sv_ifn c_25, Or.inr c_76⟩).elim)
      · refine v_iload_n dX1_areNear_65 rfl 0 rfl ?_
        refine v_mabs (by decide +kernel) (by decide +kernel) (by decide +kernel) (by decide +kernel) dX1_areNear_66 (Nat.le_of_ble_eq_true rfl) (Nat.le_of_ble_eq_true rfl) (Nat.le_of_ble_eq_true rfl) (Nat.le_of_ble_eq_true rfl) ?_
        refine v_aload_n dX1_areNear_69 rfl 1 rfl ?_
        refine v_getf 4 (ci := 0) (C := RX1) (T := TX1) (N := 6) rfl iwX1_areNear_X1 (Nat.le_of_ble_eq_true rfl) (by decide +kernel) dX1_areNear_70 (by first | with_reducible assumption) rfl ?_
        refine v_getf 6 (ci := 5) (C := RX7) (T := TX7) (N := 8) rfl iwX1_areNear_X7 (Nat.le_of_ble_eq_true rfl) (by decide +kernel) dX1_areNear_73 (by first | with_reducible assumption) rfl ?_
        refine v_icmp_lt (tgt := 83) dX1_areNear_76 (by decide) (fun c_76 => ?_) (fun c_76 => ?_)
        · refine v_iconst (v := 0) dX1_areNear_83 (by decide) ?_
          exact v_iret rfl dX1_areNear_84 (Nat.le_of_ble_eq_true rfl) (Nat.le_of_ble_eq_true rfl) rfl (by
                by_cases e9 : (((ly (S.getD i ([], 0)).2 = l1 ∧ ly (S.getD j ([], 0)).2 = l2) ∨ (ly (S.getD i ([], 0)).2 = l2 ∧ ly (S.getD j ([], 0)).2 = l1)) ∧ (gp_ mp sz X Y (S.getD i ([], 0)) (S.getD j ([], 0)) 0 < x3.toInt ∧ gp_ mp sz X Y (S.getD i ([], 0)) (S.getD j ([], 0)) 1 < x3.toInt) ∧ (x5 = -1 ∨ ¬ (if 0 ≤ (vo (S.getD i ([], 0)).2 - vo (S.getD j ([], 0)).2) then (vo (S.getD i ([], 0)).2 - vo (S.getD j ([], 0)).2) else 0 - (vo (S.getD i ([], 0)).2 - vo (S.getD j ([], 0)).2)) < x5))
                · rw [if_pos e9]
                  first
                    | exact ⟨rfl, rfl, rfl⟩
                    | exact absurd e9.1 (sv_ift c_6)
                    | exact absurd e9.2.1 (sv_ift c_25)
                    | exact absurd e9.2.2 (fun r => r.elim c_62 (fun r2 => r2 c_76))
                · rw [if_neg e9]
                  first
                    | exact ⟨rfl, rfl, rfl⟩
                    | exact (e9 ⟨sv_ifn c_6, sv_ifn c_25, Or.inl c_62⟩).elim
                    | exact (e9 ⟨sv_ifn c_6, sv_ifn c_25, Or.inr c_76⟩).elim)
        · refine v_iconst (v := 1) dX1_areNear_79 (by decide) ?_
          refine v_goto (tgt := 84) dX1_areNear_80 (by decide) ?_
          exact v_iret rfl dX1_areNear_84 (Nat.le_of_ble_eq_true rfl) (Nat.le_of_ble_eq_true rfl) rfl (by
                by_cases e9 : (((ly (S.getD i ([], 0)).2 = l1 ∧ ly (S.getD j ([], 0)).2 = l2) ∨ (ly (S.getD i ([], 0)).2 = l2 ∧ ly (S.getD j ([], 0)).2 = l1)) ∧ (gp_ mp sz X Y (S.getD i ([], 0)) (S.getD j ([], 0)) 0 < x3.toInt ∧ gp_ mp sz X Y (S.getD i ([], 0)) (S.getD j ([], 0)) 1 < x3.toInt) ∧ (x5 = -1 ∨ ¬ (if 0 ≤ (vo (S.getD i ([], 0)).2 - vo (S.getD j ([], 0)).2) then (vo (S.getD i ([], 0)).2 - vo (S.getD j ([], 0)).2) else 0 - (vo (S.getD i ([], 0)).2 - vo (S.getD j ([], 0)).2)) < x5))
                · rw [if_pos e9]
                  first
                    | exact ⟨rfl, rfl, rfl⟩
                    | exact absurd e9.1 (sv_ift c_6)
                    | exact absurd e9.2.1 (sv_ift c_25)
                    | exact absurd e9.2.2 (fun r => r.elim c_62 (fun r2 => r2 c_76))
                · rw [if_neg e9]
                  first
                    | exact ⟨rfl, rfl, rfl⟩
                    | exact (e9 ⟨sv_ifn c_6, sv_ifn c_25, Or.inl c_62⟩).elim
                    | exact (e9 ⟨sv_ifn c_6, sv_ifn c_25, Or.inr c_76⟩).elim)
    · refine v_iconst (v := 0) dX1_areNear_28 (by decide) ?_
      exact v_iret rfl dX1_areNear_29 (Nat.le_of_ble_eq_true rfl) (Nat.le_of_ble_eq_true rfl) rfl (by
            by_cases e9 : (((ly (S.getD i ([], 0)).2 = l1 ∧ ly (S.getD j ([], 0)).2 = l2) ∨ (ly (S.getD i ([], 0)).2 = l2 ∧ ly (S.getD j ([], 0)).2 = l1)) ∧ (gp_ mp sz X Y (S.getD i ([], 0)) (S.getD j ([], 0)) 0 < x3.toInt ∧ gp_ mp sz X Y (S.getD i ([], 0)) (S.getD j ([], 0)) 1 < x3.toInt) ∧ (x5 = -1 ∨ ¬ (if 0 ≤ (vo (S.getD i ([], 0)).2 - vo (S.getD j ([], 0)).2) then (vo (S.getD i ([], 0)).2 - vo (S.getD j ([], 0)).2) else 0 - (vo (S.getD i ([], 0)).2 - vo (S.getD j ([], 0)).2)) < x5))
            · rw [if_pos e9]
              first
                | exact ⟨rfl, rfl, rfl⟩
                | exact absurd e9.1 (sv_ift c_6)
                | exact absurd e9.2.1 (sv_ift c_25)
                | exact absurd e9.2.2 (fun r => r.elim c_62 (fun r2 => r2 c_76))
            · rw [if_neg e9]
              first
                | exact ⟨rfl, rfl, rfl⟩
                | exact (e9 ⟨sv_ifn c_6, sv_ifn c_25, Or.inl c_62⟩).elim
                | exact (e9 ⟨sv_ifn c_6, sv_ifn c_25, Or.inr c_76⟩).elim)

