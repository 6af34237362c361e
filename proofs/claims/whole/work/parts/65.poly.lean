theorem iwX5_after_X5 : ∀ w ∈ wsX50, w ∈ wsX5_after := by decide +kernel
theorem iwX5_closes_X5 : ∀ w ∈ wsX50, w ∈ wsX5_closes := by decide +kernel
theorem iwX5_stands_X5 : ∀ w ∈ wsX50, w ∈ wsX5_stands := by decide +kernel
theorem iwX5_alternates_X5 : ∀ w ∈ wsX50, w ∈ wsX5_alternates := by decide +kernel
theorem iwX5_touch_X5 : ∀ w ∈ wsX50, w ∈ wsX5_touch := by decide +kernel
theorem iwX5_crosses_X5 : ∀ w ∈ wsX50, w ∈ wsX5_crosses := by decide +kernel
theorem iwX5_heading_X5 : ∀ w ∈ wsX50, w ∈ wsX5_heading := by decide +kernel
theorem dX5_after_0 : decode cX5_after 0 = .ok (.iload_n 1, 1) := by decide +kernel
theorem dX5_after_1 : decode cX5_after 1 = .ok (.iconst 1, 1) := by decide +kernel
theorem dX5_after_2 : decode cX5_after 2 = .ok (.iadd, 1) := by decide +kernel
theorem dX5_after_3 : decode cX5_after 3 = .ok (.aload_n 0, 1) := by decide +kernel
theorem dX5_after_4 : decode cX5_after 4 = .ok (.getfield 31, 3) := by decide +kernel
theorem dX5_after_7 : decode cX5_after 7 = .ok (.if_icmp .ge 9, 3) := by decide +kernel
theorem dX5_after_10 : decode cX5_after 10 = .ok (.iload_n 1, 1) := by decide +kernel
theorem dX5_after_11 : decode cX5_after 11 = .ok (.iconst 1, 1) := by decide +kernel
theorem dX5_after_12 : decode cX5_after 12 = .ok (.iadd, 1) := by decide +kernel
theorem dX5_after_13 : decode cX5_after 13 = .ok (.goto 4, 3) := by decide +kernel
theorem dX5_after_16 : decode cX5_after 16 = .ok (.iconst 0, 1) := by decide +kernel
theorem dX5_after_17 : decode cX5_after 17 = .ok (.ireturn, 1) := by decide +kernel
theorem dX5_closes_0 : decode cX5_closes 0 = .ok (.aload_n 0, 1) := by decide +kernel
theorem dX5_closes_1 : decode cX5_closes 1 = .ok (.getfield 31, 3) := by decide +kernel
theorem dX5_closes_4 : decode cX5_closes 4 = .ok (.iconst 4, 1) := by decide +kernel
theorem dX5_closes_5 : decode cX5_closes 5 = .ok (.if_icmp .lt 60, 3) := by decide +kernel
theorem dX5_closes_8 : decode cX5_closes 8 = .ok (.aload_n 0, 1) := by decide +kernel
theorem dX5_closes_9 : decode cX5_closes 9 = .ok (.getfield 9, 3) := by decide +kernel
theorem dX5_closes_12 : decode cX5_closes 12 = .ok (.iconst 0, 1) := by decide +kernel
theorem dX5_closes_13 : decode cX5_closes 13 = .ok (.iaload, 1) := by decide +kernel
theorem dX5_closes_14 : decode cX5_closes 14 = .ok (.aload_n 0, 1) := by decide +kernel
theorem dX5_closes_15 : decode cX5_closes 15 = .ok (.getfield 9, 3) := by decide +kernel
theorem dX5_closes_18 : decode cX5_closes 18 = .ok (.aload_n 0, 1) := by decide +kernel
theorem dX5_closes_19 : decode cX5_closes 19 = .ok (.getfield 31, 3) := by decide +kernel
theorem dX5_closes_22 : decode cX5_closes 22 = .ok (.iconst 1, 1) := by decide +kernel
theorem dX5_closes_23 : decode cX5_closes 23 = .ok (.isub, 1) := by decide +kernel
theorem dX5_closes_24 : decode cX5_closes 24 = .ok (.iaload, 1) := by decide +kernel
theorem dX5_closes_25 : decode cX5_closes 25 = .ok (.if_icmp .ne 7, 3) := by decide +kernel
theorem dX5_closes_28 : decode cX5_closes 28 = .ok (.iconst 1, 1) := by decide +kernel
theorem dX5_closes_29 : decode cX5_closes 29 = .ok (.goto 4, 3) := by decide +kernel
theorem dX5_closes_32 : decode cX5_closes 32 = .ok (.iconst 0, 1) := by decide +kernel
theorem dX5_closes_33 : decode cX5_closes 33 = .ok (.aload_n 0, 1) := by decide +kernel
theorem dX5_closes_34 : decode cX5_closes 34 = .ok (.getfield 15, 3) := by decide +kernel
theorem dX5_closes_37 : decode cX5_closes 37 = .ok (.iconst 0, 1) := by decide +kernel
theorem dX5_closes_38 : decode cX5_closes 38 = .ok (.iaload, 1) := by decide +kernel
theorem dX5_closes_39 : decode cX5_closes 39 = .ok (.aload_n 0, 1) := by decide +kernel
theorem dX5_closes_40 : decode cX5_closes 40 = .ok (.getfield 15, 3) := by decide +kernel
theorem dX5_closes_43 : decode cX5_closes 43 = .ok (.aload_n 0, 1) := by decide +kernel
theorem dX5_closes_44 : decode cX5_closes 44 = .ok (.getfield 31, 3) := by decide +kernel
theorem dX5_closes_47 : decode cX5_closes 47 = .ok (.iconst 1, 1) := by decide +kernel
theorem dX5_closes_48 : decode cX5_closes 48 = .ok (.isub, 1) := by decide +kernel
theorem dX5_closes_49 : decode cX5_closes 49 = .ok (.iaload, 1) := by decide +kernel
theorem dX5_closes_50 : decode cX5_closes 50 = .ok (.if_icmp .ne 7, 3) := by decide +kernel
theorem dX5_closes_53 : decode cX5_closes 53 = .ok (.iconst 1, 1) := by decide +kernel
theorem dX5_closes_54 : decode cX5_closes 54 = .ok (.goto 4, 3) := by decide +kernel
theorem dX5_closes_57 : decode cX5_closes 57 = .ok (.iconst 0, 1) := by decide +kernel
theorem dX5_closes_58 : decode cX5_closes 58 = .ok (.if_icmp .eq 7, 3) := by decide +kernel
theorem dX5_closes_61 : decode cX5_closes 61 = .ok (.iconst 1, 1) := by decide +kernel
theorem dX5_closes_62 : decode cX5_closes 62 = .ok (.goto 4, 3) := by decide +kernel
theorem dX5_closes_65 : decode cX5_closes 65 = .ok (.iconst 0, 1) := by decide +kernel
theorem dX5_closes_66 : decode cX5_closes 66 = .ok (.ireturn, 1) := by decide +kernel
set_option maxRecDepth 20000 in
theorem ggX5_alternates_X5_stands : GoodIn wsX5_alternates wsX5_stands := goodIn_r _ [6, 7, 8, 9, 10, 5, 11, 1, 12, 13, 14, 15, 16, 17, 18, 19, 20, 21] (by decide +kernel) (by decide +kernel)
set_option maxRecDepth 20000 in
theorem gX5_alternates_X5_stands : GoodIn wsX5_alternates (wsV RX5 51 RX5 yX5_stands wsX5_stands) := goodIn_app (goodIn_of _ (by decide +kernel)) ggX5_alternates_X5_stands
set_option maxRecDepth 20000 in
theorem ggX5_alternates_X5_after : GoodIn wsX5_alternates wsX5_after := goodIn_r _ [11, 1, 12, 13, 14, 15, 16, 17, 18, 19, 20, 21] (by decide +kernel) (by decide +kernel)
set_option maxRecDepth 20000 in
theorem gX5_alternates_X5_after : GoodIn wsX5_alternates (wsV RX5 55 RX5 yX5_after wsX5_after) := goodIn_app (goodIn_of _ (by decide +kernel)) ggX5_alternates_X5_after
theorem dX5_alternates_0 : decode cX5_alternates 0 = .ok (.iconst 0, 1) := by decide +kernel
theorem dX5_alternates_1 : decode cX5_alternates 1 = .ok (.istore_n 1, 1) := by decide +kernel
theorem dX5_alternates_2 : decode cX5_alternates 2 = .ok (.iload_n 1, 1) := by decide +kernel
theorem dX5_alternates_3 : decode cX5_alternates 3 = .ok (.aload_n 0, 1) := by decide +kernel
theorem dX5_alternates_4 : decode cX5_alternates 4 = .ok (.getfield 31, 3) := by decide +kernel
theorem dX5_alternates_7 : decode cX5_alternates 7 = .ok (.if_icmp .ge 28, 3) := by decide +kernel
theorem dX5_alternates_10 : decode cX5_alternates 10 = .ok (.aload_n 0, 1) := by decide +kernel
theorem dX5_alternates_11 : decode cX5_alternates 11 = .ok (.iload_n 1, 1) := by decide +kernel
theorem dX5_alternates_12 : decode cX5_alternates 12 = .ok (.invokevirtual 51, 3) := by decide +kernel
theorem dX5_alternates_15 : decode cX5_alternates 15 = .ok (.aload_n 0, 1) := by decide +kernel
theorem dX5_alternates_16 : decode cX5_alternates 16 = .ok (.aload_n 0, 1) := by decide +kernel
theorem dX5_alternates_17 : decode cX5_alternates 17 = .ok (.iload_n 1, 1) := by decide +kernel
theorem dX5_alternates_18 : decode cX5_alternates 18 = .ok (.invokevirtual 55, 3) := by decide +kernel
theorem dX5_alternates_21 : decode cX5_alternates 21 = .ok (.invokevirtual 51, 3) := by decide +kernel
theorem dX5_alternates_24 : decode cX5_alternates 24 = .ok (.if_icmp .ne 5, 3) := by decide +kernel
theorem dX5_alternates_27 : decode cX5_alternates 27 = .ok (.iconst 0, 1) := by decide +kernel
theorem dX5_alternates_28 : decode cX5_alternates 28 = .ok (.ireturn, 1) := by decide +kernel
theorem dX5_alternates_29 : decode cX5_alternates 29 = .ok (.iinc 1 1, 3) := by decide +kernel
theorem dX5_alternates_32 : decode cX5_alternates 32 = .ok (.goto (-30), 3) := by decide +kernel
theorem dX5_alternates_35 : decode cX5_alternates 35 = .ok (.iconst 1, 1) := by decide +kernel
theorem dX5_alternates_36 : decode cX5_alternates 36 = .ok (.ireturn, 1) := by decide +kernel
set_option maxRecDepth 20000 in
theorem ggX5_stands_X5_after : GoodIn wsX5_stands wsX5_after := goodIn_r _ [6, 7, 8, 9, 10, 11, 12, 13, 14, 15, 16, 17] (by decide +kernel) (by decide +kernel)
set_option maxRecDepth 20000 in
theorem gX5_stands_X5_after : GoodIn wsX5_stands (wsV RX5 55 RX5 yX5_after wsX5_after) := goodIn_app (goodIn_of _ (by decide +kernel)) ggX5_stands_X5_after
theorem dX5_stands_0 : decode cX5_stands 0 = .ok (.aload_n 0, 1) := by decide +kernel
theorem dX5_stands_1 : decode cX5_stands 1 = .ok (.getfield 9, 3) := by decide +kernel
theorem dX5_stands_4 : decode cX5_stands 4 = .ok (.iload_n 1, 1) := by decide +kernel
theorem dX5_stands_5 : decode cX5_stands 5 = .ok (.iaload, 1) := by decide +kernel
theorem dX5_stands_6 : decode cX5_stands 6 = .ok (.aload_n 0, 1) := by decide +kernel
theorem dX5_stands_7 : decode cX5_stands 7 = .ok (.getfield 9, 3) := by decide +kernel
theorem dX5_stands_10 : decode cX5_stands 10 = .ok (.aload_n 0, 1) := by decide +kernel
theorem dX5_stands_11 : decode cX5_stands 11 = .ok (.iload_n 1, 1) := by decide +kernel
theorem dX5_stands_12 : decode cX5_stands 12 = .ok (.invokevirtual 55, 3) := by decide +kernel
theorem dX5_stands_15 : decode cX5_stands 15 = .ok (.iaload, 1) := by decide +kernel
theorem dX5_stands_16 : decode cX5_stands 16 = .ok (.if_icmp .ne 7, 3) := by decide +kernel
theorem dX5_stands_19 : decode cX5_stands 19 = .ok (.iconst 1, 1) := by decide +kernel
theorem dX5_stands_20 : decode cX5_stands 20 = .ok (.goto 4, 3) := by decide +kernel
theorem dX5_stands_23 : decode cX5_stands 23 = .ok (.iconst 0, 1) := by decide +kernel
theorem dX5_stands_24 : decode cX5_stands 24 = .ok (.ireturn, 1) := by decide +kernel
set_option maxRecDepth 20000 in
theorem ggX5_crosses_X5_after : GoodIn wsX5_crosses wsX5_after := goodIn_r _ [6, 1, 20, 21, 22, 23, 24, 25, 26, 27, 28, 29] (by decide +kernel) (by decide +kernel)
set_option maxRecDepth 20000 in
theorem gX5_crosses_X5_after : GoodIn wsX5_crosses (wsV RX5 55 RX5 yX5_after wsX5_after) := goodIn_app (goodIn_of _ (by decide +kernel)) ggX5_crosses_X5_after
set_option maxRecDepth 20000 in
theorem ggX5_crosses_X5_touch : GoodIn wsX5_crosses wsX5_touch := goodIn_r _ [10, 11, 12, 13, 14, 15, 16, 17, 18, 19, 2, 3, 4, 5, 6, 1, 20, 21, 22, 23, 24, 25, 26, 27, 28, 29] (by decide +kernel) (by decide +kernel)
set_option maxRecDepth 20000 in
theorem gX5_crosses_X5_touch : GoodIn wsX5_crosses (wsV RX5 59 RX5 yX5_touch wsX5_touch) := goodIn_app (goodIn_of _ (by decide +kernel)) ggX5_crosses_X5_touch
theorem dX5_crosses_0 : decode cX5_crosses 0 = .ok (.iconst 0, 1) := by decide +kernel
theorem dX5_crosses_1 : decode cX5_crosses 1 = .ok (.istore_n 1, 1) := by decide +kernel
theorem dX5_crosses_2 : decode cX5_crosses 2 = .ok (.iload_n 1, 1) := by decide +kernel
theorem dX5_crosses_3 : decode cX5_crosses 3 = .ok (.aload_n 0, 1) := by decide +kernel
theorem dX5_crosses_4 : decode cX5_crosses 4 = .ok (.getfield 31, 3) := by decide +kernel
theorem dX5_crosses_7 : decode cX5_crosses 7 = .ok (.if_icmp .ge 47, 3) := by decide +kernel
theorem dX5_crosses_10 : decode cX5_crosses 10 = .ok (.iload_n 1, 1) := by decide +kernel
theorem dX5_crosses_11 : decode cX5_crosses 11 = .ok (.iconst 2, 1) := by decide +kernel
theorem dX5_crosses_12 : decode cX5_crosses 12 = .ok (.iadd, 1) := by decide +kernel
theorem dX5_crosses_13 : decode cX5_crosses 13 = .ok (.istore_n 2, 1) := by decide +kernel
theorem dX5_crosses_14 : decode cX5_crosses 14 = .ok (.iload_n 2, 1) := by decide +kernel
theorem dX5_crosses_15 : decode cX5_crosses 15 = .ok (.aload_n 0, 1) := by decide +kernel
theorem dX5_crosses_16 : decode cX5_crosses 16 = .ok (.getfield 31, 3) := by decide +kernel
theorem dX5_crosses_19 : decode cX5_crosses 19 = .ok (.if_icmp .ge 29, 3) := by decide +kernel
theorem dX5_crosses_22 : decode cX5_crosses 22 = .ok (.aload_n 0, 1) := by decide +kernel
theorem dX5_crosses_23 : decode cX5_crosses 23 = .ok (.iload_n 2, 1) := by decide +kernel
theorem dX5_crosses_24 : decode cX5_crosses 24 = .ok (.invokevirtual 55, 3) := by decide +kernel
theorem dX5_crosses_27 : decode cX5_crosses 27 = .ok (.iload_n 1, 1) := by decide +kernel
theorem dX5_crosses_28 : decode cX5_crosses 28 = .ok (.if_icmp .eq 14, 3) := by decide +kernel
theorem dX5_crosses_31 : decode cX5_crosses 31 = .ok (.aload_n 0, 1) := by decide +kernel
theorem dX5_crosses_32 : decode cX5_crosses 32 = .ok (.iload_n 1, 1) := by decide +kernel
theorem dX5_crosses_33 : decode cX5_crosses 33 = .ok (.iload_n 2, 1) := by decide +kernel
theorem dX5_crosses_34 : decode cX5_crosses 34 = .ok (.invokevirtual 59, 3) := by decide +kernel
theorem dX5_crosses_37 : decode cX5_crosses 37 = .ok (.ifCond .eq 5, 3) := by decide +kernel
theorem dX5_crosses_40 : decode cX5_crosses 40 = .ok (.iconst 1, 1) := by decide +kernel
theorem dX5_crosses_41 : decode cX5_crosses 41 = .ok (.ireturn, 1) := by decide +kernel
theorem dX5_crosses_42 : decode cX5_crosses 42 = .ok (.iinc 2 1, 3) := by decide +kernel
theorem dX5_crosses_45 : decode cX5_crosses 45 = .ok (.goto (-31), 3) := by decide +kernel
theorem dX5_crosses_48 : decode cX5_crosses 48 = .ok (.iinc 1 1, 3) := by decide +kernel
theorem dX5_crosses_51 : decode cX5_crosses 51 = .ok (.goto (-49), 3) := by decide +kernel
theorem dX5_crosses_54 : decode cX5_crosses 54 = .ok (.iconst 0, 1) := by decide +kernel
theorem dX5_crosses_55 : decode cX5_crosses 55 = .ok (.ireturn, 1) := by decide +kernel
set_option maxRecDepth 20000 in
theorem ggX5_touch_X5_after : GoodIn wsX5_touch wsX5_after := goodIn_r _ [14, 15, 16, 17, 18, 19, 20, 21, 22, 23, 24, 25] (by decide +kernel) (by decide +kernel)
set_option maxRecDepth 20000 in
theorem gX5_touch_X5_after : GoodIn wsX5_touch (wsV RX5 55 RX5 yX5_after wsX5_after) := goodIn_app (goodIn_of _ (by decide +kernel)) ggX5_touch_X5_after
theorem dX5_touch_0 : decode cX5_touch 0 = .ok (.aload_n 0, 1) := by decide +kernel
theorem dX5_touch_1 : decode cX5_touch 1 = .ok (.iload_n 1, 1) := by decide +kernel
theorem dX5_touch_2 : decode cX5_touch 2 = .ok (.invokevirtual 55, 3) := by decide +kernel
theorem dX5_touch_5 : decode cX5_touch 5 = .ok (.istore_n 3, 1) := by decide +kernel
theorem dX5_touch_6 : decode cX5_touch 6 = .ok (.aload_n 0, 1) := by decide +kernel
theorem dX5_touch_7 : decode cX5_touch 7 = .ok (.iload_n 2, 1) := by decide +kernel
theorem dX5_touch_8 : decode cX5_touch 8 = .ok (.invokevirtual 55, 3) := by decide +kernel
theorem dX5_touch_11 : decode cX5_touch 11 = .ok (.istore 4, 2) := by decide +kernel
theorem dX5_touch_13 : decode cX5_touch 13 = .ok (.aload_n 0, 1) := by decide +kernel
theorem dX5_touch_14 : decode cX5_touch 14 = .ok (.getfield 9, 3) := by decide +kernel
theorem dX5_touch_17 : decode cX5_touch 17 = .ok (.iload_n 1, 1) := by decide +kernel
theorem dX5_touch_18 : decode cX5_touch 18 = .ok (.iaload, 1) := by decide +kernel
theorem dX5_touch_19 : decode cX5_touch 19 = .ok (.aload_n 0, 1) := by decide +kernel
theorem dX5_touch_20 : decode cX5_touch 20 = .ok (.getfield 9, 3) := by decide +kernel
theorem dX5_touch_23 : decode cX5_touch 23 = .ok (.iload_n 3, 1) := by decide +kernel
theorem dX5_touch_24 : decode cX5_touch 24 = .ok (.iaload, 1) := by decide +kernel
theorem dX5_touch_25 : decode cX5_touch 25 = .ok (.invokestatic 63, 3) := by decide +kernel
theorem dX5_touch_28 : decode cX5_touch 28 = .ok (.aload_n 0, 1) := by decide +kernel
theorem dX5_touch_29 : decode cX5_touch 29 = .ok (.getfield 9, 3) := by decide +kernel
theorem dX5_touch_32 : decode cX5_touch 32 = .ok (.iload_n 2, 1) := by decide +kernel
theorem dX5_touch_33 : decode cX5_touch 33 = .ok (.iaload, 1) := by decide +kernel
theorem dX5_touch_34 : decode cX5_touch 34 = .ok (.aload_n 0, 1) := by decide +kernel
theorem dX5_touch_35 : decode cX5_touch 35 = .ok (.getfield 9, 3) := by decide +kernel
theorem dX5_touch_38 : decode cX5_touch 38 = .ok (.iload 4, 2) := by decide +kernel
theorem dX5_touch_40 : decode cX5_touch 40 = .ok (.iaload, 1) := by decide +kernel
theorem dX5_touch_41 : decode cX5_touch 41 = .ok (.invokestatic 69, 3) := by decide +kernel
theorem dX5_touch_44 : decode cX5_touch 44 = .ok (.if_icmp .gt 109, 3) := by decide +kernel
theorem dX5_touch_47 : decode cX5_touch 47 = .ok (.aload_n 0, 1) := by decide +kernel
theorem dX5_touch_48 : decode cX5_touch 48 = .ok (.getfield 9, 3) := by decide +kernel
theorem dX5_touch_51 : decode cX5_touch 51 = .ok (.iload_n 2, 1) := by decide +kernel
theorem dX5_touch_52 : decode cX5_touch 52 = .ok (.iaload, 1) := by decide +kernel
theorem dX5_touch_53 : decode cX5_touch 53 = .ok (.aload_n 0, 1) := by decide +kernel
theorem dX5_touch_54 : decode cX5_touch 54 = .ok (.getfield 9, 3) := by decide +kernel
theorem dX5_touch_57 : decode cX5_touch 57 = .ok (.iload 4, 2) := by decide +kernel
theorem dX5_touch_59 : decode cX5_touch 59 = .ok (.iaload, 1) := by decide +kernel
theorem dX5_touch_60 : decode cX5_touch 60 = .ok (.invokestatic 63, 3) := by decide +kernel
theorem dX5_touch_63 : decode cX5_touch 63 = .ok (.aload_n 0, 1) := by decide +kernel
theorem dX5_touch_64 : decode cX5_touch 64 = .ok (.getfield 9, 3) := by decide +kernel
theorem dX5_touch_67 : decode cX5_touch 67 = .ok (.iload_n 1, 1) := by decide +kernel
theorem dX5_touch_68 : decode cX5_touch 68 = .ok (.iaload, 1) := by decide +kernel
theorem dX5_touch_69 : decode cX5_touch 69 = .ok (.aload_n 0, 1) := by decide +kernel
theorem dX5_touch_70 : decode cX5_touch 70 = .ok (.getfield 9, 3) := by decide +kernel
theorem dX5_touch_73 : decode cX5_touch 73 = .ok (.iload_n 3, 1) := by decide +kernel
theorem dX5_touch_74 : decode cX5_touch 74 = .ok (.iaload, 1) := by decide +kernel
theorem dX5_touch_75 : decode cX5_touch 75 = .ok (.invokestatic 69, 3) := by decide +kernel
theorem dX5_touch_78 : decode cX5_touch 78 = .ok (.if_icmp .gt 75, 3) := by decide +kernel
theorem dX5_touch_81 : decode cX5_touch 81 = .ok (.aload_n 0, 1) := by decide +kernel
theorem dX5_touch_82 : decode cX5_touch 82 = .ok (.getfield 15, 3) := by decide +kernel
theorem dX5_touch_85 : decode cX5_touch 85 = .ok (.iload_n 1, 1) := by decide +kernel
theorem dX5_touch_86 : decode cX5_touch 86 = .ok (.iaload, 1) := by decide +kernel
theorem dX5_touch_87 : decode cX5_touch 87 = .ok (.aload_n 0, 1) := by decide +kernel
theorem dX5_touch_88 : decode cX5_touch 88 = .ok (.getfield 15, 3) := by decide +kernel
theorem dX5_touch_91 : decode cX5_touch 91 = .ok (.iload_n 3, 1) := by decide +kernel
theorem dX5_touch_92 : decode cX5_touch 92 = .ok (.iaload, 1) := by decide +kernel
theorem dX5_touch_93 : decode cX5_touch 93 = .ok (.invokestatic 63, 3) := by decide +kernel
theorem dX5_touch_96 : decode cX5_touch 96 = .ok (.aload_n 0, 1) := by decide +kernel
theorem dX5_touch_97 : decode cX5_touch 97 = .ok (.getfield 15, 3) := by decide +kernel
theorem dX5_touch_100 : decode cX5_touch 100 = .ok (.iload_n 2, 1) := by decide +kernel
theorem dX5_touch_101 : decode cX5_touch 101 = .ok (.iaload, 1) := by decide +kernel
theorem dX5_touch_102 : decode cX5_touch 102 = .ok (.aload_n 0, 1) := by decide +kernel
theorem dX5_touch_103 : decode cX5_touch 103 = .ok (.getfield 15, 3) := by decide +kernel
theorem dX5_touch_106 : decode cX5_touch 106 = .ok (.iload 4, 2) := by decide +kernel
theorem dX5_touch_108 : decode cX5_touch 108 = .ok (.iaload, 1) := by decide +kernel
theorem dX5_touch_109 : decode cX5_touch 109 = .ok (.invokestatic 69, 3) := by decide +kernel
theorem dX5_touch_112 : decode cX5_touch 112 = .ok (.if_icmp .gt 41, 3) := by decide +kernel
theorem dX5_touch_115 : decode cX5_touch 115 = .ok (.aload_n 0, 1) := by decide +kernel
theorem dX5_touch_116 : decode cX5_touch 116 = .ok (.getfield 15, 3) := by decide +kernel
theorem dX5_touch_119 : decode cX5_touch 119 = .ok (.iload_n 2, 1) := by decide +kernel
theorem dX5_touch_120 : decode cX5_touch 120 = .ok (.iaload, 1) := by decide +kernel
theorem dX5_touch_121 : decode cX5_touch 121 = .ok (.aload_n 0, 1) := by decide +kernel
theorem dX5_touch_122 : decode cX5_touch 122 = .ok (.getfield 15, 3) := by decide +kernel
theorem dX5_touch_125 : decode cX5_touch 125 = .ok (.iload 4, 2) := by decide +kernel
theorem dX5_touch_127 : decode cX5_touch 127 = .ok (.iaload, 1) := by decide +kernel
theorem dX5_touch_128 : decode cX5_touch 128 = .ok (.invokestatic 63, 3) := by decide +kernel
theorem dX5_touch_131 : decode cX5_touch 131 = .ok (.aload_n 0, 1) := by decide +kernel
theorem dX5_touch_132 : decode cX5_touch 132 = .ok (.getfield 15, 3) := by decide +kernel
theorem dX5_touch_135 : decode cX5_touch 135 = .ok (.iload_n 1, 1) := by decide +kernel
theorem dX5_touch_136 : decode cX5_touch 136 = .ok (.iaload, 1) := by decide +kernel
theorem dX5_touch_137 : decode cX5_touch 137 = .ok (.aload_n 0, 1) := by decide +kernel
theorem dX5_touch_138 : decode cX5_touch 138 = .ok (.getfield 15, 3) := by decide +kernel
theorem dX5_touch_141 : decode cX5_touch 141 = .ok (.iload_n 3, 1) := by decide +kernel
theorem dX5_touch_142 : decode cX5_touch 142 = .ok (.iaload, 1) := by decide +kernel
theorem dX5_touch_143 : decode cX5_touch 143 = .ok (.invokestatic 69, 3) := by decide +kernel
theorem dX5_touch_146 : decode cX5_touch 146 = .ok (.if_icmp .gt 7, 3) := by decide +kernel
theorem dX5_touch_149 : decode cX5_touch 149 = .ok (.iconst 1, 1) := by decide +kernel
theorem dX5_touch_150 : decode cX5_touch 150 = .ok (.goto 4, 3) := by decide +kernel
theorem dX5_touch_153 : decode cX5_touch 153 = .ok (.iconst 0, 1) := by decide +kernel
theorem dX5_touch_154 : decode cX5_touch 154 = .ok (.ireturn, 1) := by decide +kernel
set_option maxRecDepth 20000 in
theorem ggX5_heading_X5_after : GoodIn wsX5_heading wsX5_after := goodIn_r _ [7, 8, 13, 14, 15, 16, 17, 18, 19, 20, 21, 22] (by decide +kernel) (by decide +kernel)
set_option maxRecDepth 20000 in
theorem gX5_heading_X5_after : GoodIn wsX5_heading (wsV RX5 55 RX5 yX5_after wsX5_after) := goodIn_app (goodIn_of _ (by decide +kernel)) ggX5_heading_X5_after
set_option maxRecDepth 20000 in
theorem ggX5_heading_X5_stands : GoodIn wsX5_heading wsX5_stands := goodIn_r _ [12, 2, 3, 4, 5, 6, 7, 8, 13, 14, 15, 16, 17, 18, 19, 20, 21, 22] (by decide +kernel) (by decide +kernel)
set_option maxRecDepth 20000 in
theorem gX5_heading_X5_stands : GoodIn wsX5_heading (wsV RX5 51 RX5 yX5_stands wsX5_stands) := goodIn_app (goodIn_of _ (by decide +kernel)) ggX5_heading_X5_stands
theorem dX5_heading_0 : decode cX5_heading 0 = .ok (.aload_n 0, 1) := by decide +kernel
theorem dX5_heading_1 : decode cX5_heading 1 = .ok (.iload_n 1, 1) := by decide +kernel
theorem dX5_heading_2 : decode cX5_heading 2 = .ok (.invokevirtual 55, 3) := by decide +kernel
theorem dX5_heading_5 : decode cX5_heading 5 = .ok (.istore_n 2, 1) := by decide +kernel
theorem dX5_heading_6 : decode cX5_heading 6 = .ok (.aload_n 0, 1) := by decide +kernel
theorem dX5_heading_7 : decode cX5_heading 7 = .ok (.iload_n 1, 1) := by decide +kernel
theorem dX5_heading_8 : decode cX5_heading 8 = .ok (.invokevirtual 51, 3) := by decide +kernel
theorem dX5_heading_11 : decode cX5_heading 11 = .ok (.ifCond .eq 24, 3) := by decide +kernel
theorem dX5_heading_14 : decode cX5_heading 14 = .ok (.aload_n 0, 1) := by decide +kernel
theorem dX5_heading_15 : decode cX5_heading 15 = .ok (.getfield 15, 3) := by decide +kernel
theorem dX5_heading_18 : decode cX5_heading 18 = .ok (.iload_n 2, 1) := by decide +kernel
theorem dX5_heading_19 : decode cX5_heading 19 = .ok (.iaload, 1) := by decide +kernel
theorem dX5_heading_20 : decode cX5_heading 20 = .ok (.aload_n 0, 1) := by decide +kernel
theorem dX5_heading_21 : decode cX5_heading 21 = .ok (.getfield 15, 3) := by decide +kernel
theorem dX5_heading_24 : decode cX5_heading 24 = .ok (.iload_n 1, 1) := by decide +kernel
theorem dX5_heading_25 : decode cX5_heading 25 = .ok (.iaload, 1) := by decide +kernel
theorem dX5_heading_26 : decode cX5_heading 26 = .ok (.if_icmp .le 7, 3) := by decide +kernel
theorem dX5_heading_29 : decode cX5_heading 29 = .ok (.iconst 1, 1) := by decide +kernel
theorem dX5_heading_30 : decode cX5_heading 30 = .ok (.goto 4, 3) := by decide +kernel
theorem dX5_heading_33 : decode cX5_heading 33 = .ok (.iconst 3, 1) := by decide +kernel
theorem dX5_heading_34 : decode cX5_heading 34 = .ok (.ireturn, 1) := by decide +kernel
theorem dX5_heading_35 : decode cX5_heading 35 = .ok (.aload_n 0, 1) := by decide +kernel
theorem dX5_heading_36 : decode cX5_heading 36 = .ok (.getfield 9, 3) := by decide +kernel
theorem dX5_heading_39 : decode cX5_heading 39 = .ok (.iload_n 2, 1) := by decide +kernel
theorem dX5_heading_40 : decode cX5_heading 40 = .ok (.iaload, 1) := by decide +kernel
theorem dX5_heading_41 : decode cX5_heading 41 = .ok (.aload_n 0, 1) := by decide +kernel
theorem dX5_heading_42 : decode cX5_heading 42 = .ok (.getfield 9, 3) := by decide +kernel
theorem dX5_heading_45 : decode cX5_heading 45 = .ok (.iload_n 1, 1) := by decide +kernel
theorem dX5_heading_46 : decode cX5_heading 46 = .ok (.iaload, 1) := by decide +kernel
theorem dX5_heading_47 : decode cX5_heading 47 = .ok (.if_icmp .le 7, 3) := by decide +kernel
theorem dX5_heading_50 : decode cX5_heading 50 = .ok (.iconst 0, 1) := by decide +kernel
theorem dX5_heading_51 : decode cX5_heading 51 = .ok (.goto 4, 3) := by decide +kernel
theorem dX5_heading_54 : decode cX5_heading 54 = .ok (.iconst 2, 1) := by decide +kernel
theorem dX5_heading_55 : decode cX5_heading 55 = .ok (.ireturn, 1) := by decide +kernel

theorem sv_gmin (x y : Int32) : (if y < x then y else x) = gm_min x y := by
  unfold gm_min
  by_cases q : y < x
  · rw [if_pos q, if_neg (Int32.not_le.mpr q)]
  · rw [if_neg q, if_pos (Int32.not_lt.mp q)]
theorem sv_gmax (x y : Int32) : (if x < y then y else x) = gm_max x y := by
  unfold gm_max
  by_cases q : x < y
  · rw [if_pos q, if_pos (Int32.le_of_lt q)]
  · rw [if_neg q]
    by_cases r : x ≤ y
    · rw [if_pos r]
      rw [Int32.lt_iff_toInt_lt] at q
      rw [Int32.le_iff_toInt_le] at r
      exact Int32.toInt_inj.mp (by omega)
    · rw [if_neg r]
section SVM
variable {G : sv_G} {M : sv_M} {P : sv_P} {pc : Nat} {L : List (Nat × Value)} {S : List Value} {h : sv_h} {z ce sl : Nat}
theorem v_mmin {index : Nat} {x y : Int32} (w1 : Cond.methodLink M.2.2.1.cls index Lib.Math.min.name ∈ M.2.2.2.1) (w2 : Cond.static Lib.Math.min.name ∈ M.2.2.2.1) (w3 : Cond.initialized "java/lang/Math" ∈ M.2.2.2.1) (w4 : Cond.code Lib.Math.min.name Lib.Math.min.code 2 (some .int) ∈ M.2.2.2.1) (hdg : decode M.1 pc = .ok (.invokestatic index, 3)) (hfr : 1 ≤ M.2.2.2.2.2.1.frames) (hlo : (S.map fun v => v.category).sum + 13 ≤ M.2.2.2.2.2.1.locals) (hc : ce ≤ M.2.2.2.2.2.1.cells) (hs : sl ≤ M.2.2.2.2.2.1.slots)
    (kk : V G M P (pc + 3) L (.int (gm_min x y) :: S) h z ce sl) : V G M P pc L (.int y :: .int x :: S) h z ce sl := by
  intro p e s m args below meth c H locs ls C K Z hS hH hl
  refine va_mmin C.1 C.2.1 (by rw [C.2.2.1]; exact hl.1.symm) C.2.2.2.1 (C.2.2.2.2.1 _ w1) (C.2.2.2.2.1 _ w2) (C.2.2.2.2.1 _ w3) (C.2.2.2.2.1 _ w4) hfr hlo hc hs hdg ?_
  rw [sv_gmin]
  exact kk p e s m args below meth c H locs ls C K Z hS hH hl
theorem v_mmax {index : Nat} {x y : Int32} (w1 : Cond.methodLink M.2.2.1.cls index Lib.Math.max.name ∈ M.2.2.2.1) (w2 : Cond.static Lib.Math.max.name ∈ M.2.2.2.1) (w3 : Cond.initialized "java/lang/Math" ∈ M.2.2.2.1) (w4 : Cond.code Lib.Math.max.name Lib.Math.max.code 2 (some .int) ∈ M.2.2.2.1) (hdg : decode M.1 pc = .ok (.invokestatic index, 3)) (hfr : 1 ≤ M.2.2.2.2.2.1.frames) (hlo : (S.map fun v => v.category).sum + 13 ≤ M.2.2.2.2.2.1.locals) (hc : ce ≤ M.2.2.2.2.2.1.cells) (hs : sl ≤ M.2.2.2.2.2.1.slots)
    (kk : V G M P (pc + 3) L (.int (gm_max x y) :: S) h z ce sl) : V G M P pc L (.int y :: .int x :: S) h z ce sl := by
  intro p e s m args below meth c H locs ls C K Z hS hH hl
  refine va_mmax C.1 C.2.1 (by rw [C.2.2.1]; exact hl.1.symm) C.2.2.2.1 (C.2.2.2.2.1 _ w1) (C.2.2.2.2.1 _ w2) (C.2.2.2.2.1 _ w3) (C.2.2.2.2.1 _ w4) hfr hlo hc hs hdg ?_
  rw [sv_gmax]
  exact kk p e s m args below meth c H locs ls C K Z hS hH hl
end SVM
theorem gm_aft_lt {n i : Nat} (h : i < n) : gm_aft n i < n := by
  unfold gm_aft
  split <;> omega
theorem af_t {n i : Nat} (hi : i < n) (hn : n ≤ 16) (c : nI n ≤ nI i + 1) : nI (gm_aft n i) = 0 := by
  rw [nI_1] at c
  have := (nI_leI (by omega) (by omega)).mp c
  rw [gm_aft, if_neg (by omega)]; rfl
theorem af_f {n i : Nat} (hi : i < n) (hn : n ≤ 16) (c : ¬ nI n ≤ nI i + 1) : nI (gm_aft n i) = nI i + 1 := by
  rw [nI_1] at c ⊢
  have : i + 1 < n := Nat.lt_of_not_le (fun q => c (nI_le q (by omega)))
  rw [gm_aft, if_pos this]
theorem sv_prd {n : Nat} (h : 1 ≤ n) : nI n - 1 = nI (n - 1) := by
  obtain ⟨k, rfl⟩ : ∃ k, n = k + 1 := ⟨n - 1, by omega⟩
  exact nI_pred k
theorem sv_ge4 {n : Nat} (hn : n ≤ 16) (c : ¬ nI n < (4 : Int32)) : 4 ≤ n := Nat.le_of_not_lt (fun q => c (nI_lt (b := 4) q (by omega)))
theorem sv_lt4 {n : Nat} (hn : n ≤ 16) (c : nI n < (4 : Int32)) : ¬ 4 ≤ n := by
  have := (nI_ltI (b := 4) (by omega) (by omega)).mp c
  omega
theorem sv_ifi {p q : Prop} [Decidable p] [Decidable q] : ((if p then 1 else 0 : Int32) = if q then 1 else 0) ↔ (p ↔ q) := by
  by_cases a : p <;> by_cases b : q <;> simp [a, b]
abbrev mX5_after : sv_M := (cX5_after, 2, yX5_after, wsX5_after, (some .int), { frames := 0, cells := 0, slots := 0, locals := 0 }, [])
set_option maxHeartbeats 4000000 in
set_option maxRecDepth 100000 in
theorem c_after (G : sv_G) (h : sv_h) (z a n : Nat) (hm ly vo rt ar : Int32) (fx fy : Nat → Int32) (hp : h a = some (.inr (3, [.int hm, .int ly, .ref (a + 1), .ref (a + 2), .int (nI n), .int vo, .int rt, .int ar, .ref (a + 3), .ref (a + 4)]))) (hx : ab_I G h (a + 1) 16 fx) (hy : ab_I G h (a + 2) 16 fy) (hn : n ≤ 16) (i : Nat) (hi : i < n) : CT G mX5_after [.ref a, .int (nI i)] h z (fun v h1 z1 => v = some (.int (nI (gm_aft n i))) ∧ h1 = h ∧ z1 = z) := by
  refine CT.of (by decide +kernel) rfl rfl (Nat.le_of_ble_eq_true rfl) ?_
  refine v_iload_n dX5_after_0 rfl 1 rfl ?_
  refine v_iconst (v := 1) dX5_after_1 (by decide) ?_
  refine v_iadd dX5_after_2 ?_
  refine v_aload_n dX5_after_3 rfl 0 rfl ?_
  refine v_getf 4 (ci := 3) (C := RX5) (T := TX5) (N := 10) rfl iwX5_after_X5 (Nat.le_of_ble_eq_true rfl) (by decide +kernel) dX5_after_4 (by repeat (first | (with_reducible refine sv_us.trans ?_; exact rfl) | with_reducible assumption | with_reducible refine (sv_un (by omega)).trans ?_)) rfl ?_
  refine v_icmp_ge (tgt := 16) dX5_after_7 (by decide) (fun c_7 => ?_) (fun c_7 => ?_)
  · refine v_iconst (v := 0) dX5_after_16 (by decide) ?_
    exact v_iret rfl dX5_after_17 (Nat.le_of_ble_eq_true rfl) (Nat.le_of_ble_eq_true rfl) rfl ⟨by first | (rw [af_t hi hn c_7]) | (rw [af_f hi hn c_7]), rfl, rfl⟩
  · refine v_iload_n dX5_after_10 rfl 1 rfl ?_
    refine v_iconst (v := 1) dX5_after_11 (by decide) ?_
    refine v_iadd dX5_after_12 ?_
    refine v_goto (tgt := 17) dX5_after_13 (by decide) ?_
    exact v_iret rfl dX5_after_17 (Nat.le_of_ble_eq_true rfl) (Nat.le_of_ble_eq_true rfl) rfl ⟨by first | (rw [af_t hi hn c_7]) | (rw [af_f hi hn c_7]), rfl, rfl⟩

abbrev mX5_stands : sv_M := (cX5_stands, 2, yX5_stands, wsX5_stands, (some .boolean), { frames := 1, cells := 0, slots := 0, locals := 21 }, [])
set_option maxHeartbeats 4000000 in
set_option maxRecDepth 100000 in
theorem c_stands (G : sv_G) (h : sv_h) (z a n : Nat) (hm ly vo rt ar : Int32) (fx fy : Nat → Int32) (hp : h a = some (.inr (3, [.int hm, .int ly, .ref (a + 1), .ref (a + 2), .int (nI n), .int vo, .int rt, .int ar, .ref (a + 3), .ref (a + 4)]))) (hx : ab_I G h (a + 1) 16 fx) (hy : ab_I G h (a + 2) 16 fy) (hn : n ≤ 16) (i : Nat) (hi : i < n) : CT G mX5_stands [.ref a, .int (nI i)] h z (fun v h1 z1 => v = some (.int (if fx i = fx (gm_aft n i) then 1 else 0)) ∧ h1 = h ∧ z1 = z) := by
  refine CT.of (by decide +kernel) rfl rfl (Nat.le_of_ble_eq_true rfl) ?_
  refine v_aload_n dX5_stands_0 rfl 0 rfl ?_
  refine v_getf 2 (ci := 3) (C := RX5) (T := TX5) (N := 10) rfl iwX5_stands_X5 (Nat.le_of_ble_eq_true rfl) (by decide +kernel) dX5_stands_1 (by repeat (first | (with_reducible refine sv_us.trans ?_; exact rfl) | with_reducible assumption | with_reducible refine (sv_un (by omega)).trans ?_)) rfl ?_
  refine v_iload_n dX5_stands_4 rfl 1 rfl ?_
  refine v_ialdS (v := fx i) dX5_stands_5 (by repeat (first | (with_reducible refine sv_us.trans ?_; exact rfl) | with_reducible assumption | with_reducible refine (sv_un (by omega)).trans ?_)) (vp_in_nI (by have q9 := hi; omega) (by omega)) (by rw [nI_clamp (by have q9 := hi; omega)]) ?_
  refine v_aload_n dX5_stands_6 rfl 0 rfl ?_
  refine v_getf 2 (ci := 3) (C := RX5) (T := TX5) (N := 10) rfl iwX5_stands_X5 (Nat.le_of_ble_eq_true rfl) (by decide +kernel) dX5_stands_7 (by repeat (first | (with_reducible refine sv_us.trans ?_; exact rfl) | with_reducible assumption | with_reducible refine (sv_un (by omega)).trans ?_)) rfl ?_
  refine v_aload_n dX5_stands_10 rfl 0 rfl ?_
  refine v_iload_n dX5_stands_11 rfl 1 rfl ?_
  refine v_callV (M' := mX5_after) (n := 1) (As := [_]) (ci := 3) (r := (RX5, TX5, 10)) gX5_stands_X5_after rfl (by decide +kernel) ⟨(Nat.le_of_ble_eq_true rfl), (Nat.le_of_ble_eq_true rfl)⟩ rfl rfl dX5_stands_12 rfl ⟨(Nat.le_of_ble_eq_true rfl), (Nat.le_of_ble_eq_true rfl)⟩ (Nat.le_of_ble_eq_true rfl) (by repeat (first | (with_reducible refine sv_us.trans ?_; exact rfl) | with_reducible assumption | with_reducible refine (sv_un (by omega)).trans ?_)) rfl (c_after G _ _ a n _ _ _ _ _ fx fy hp hx hy hn i hi) (fun v h1 z1 hq => ?_)
  obtain ⟨rfl, rfl, rfl⟩ := hq
  refine v_ialdS (v := fx (gm_aft n i)) dX5_stands_15 (by repeat (first | (with_reducible refine sv_us.trans ?_; exact rfl) | with_reducible assumption | with_reducible refine (sv_un (by omega)).trans ?_)) (vp_in_nI (by have q9 := (gm_aft_lt hi); omega) (by omega)) (by rw [nI_clamp (by have q9 := (gm_aft_lt hi); omega)]) ?_
  refine v_icmp_ne (tgt := 23) dX5_stands_16 (by decide) (fun c_16 => ?_) (fun c_16 => ?_)
  · refine v_iconst (v := 0) dX5_stands_23 (by decide) ?_
    exact v_iret rfl dX5_stands_24 (Nat.le_of_ble_eq_true rfl) (Nat.le_of_ble_eq_true rfl) rfl ⟨by first | (rw [if_pos c_16]) | (rw [if_neg c_16]), rfl, rfl⟩
  · refine v_iconst (v := 1) dX5_stands_19 (by decide) ?_
    refine v_goto (tgt := 24) dX5_stands_20 (by decide) ?_
    exact v_iret rfl dX5_stands_24 (Nat.le_of_ble_eq_true rfl) (Nat.le_of_ble_eq_true rfl) rfl ⟨by first | (rw [if_pos c_16]) | (rw [if_neg c_16]), rfl, rfl⟩

abbrev mX5_closes : sv_M := (cX5_closes, 1, yX5_closes, wsX5_closes, (some .boolean), { frames := 0, cells := 0, slots := 0, locals := 0 }, [])
set_option maxHeartbeats 4000000 in
set_option maxRecDepth 100000 in
theorem c_closes (G : sv_G) (h : sv_h) (z a n : Nat) (hm ly vo rt ar : Int32) (fx fy : Nat → Int32) (hp : h a = some (.inr (3, [.int hm, .int ly, .ref (a + 1), .ref (a + 2), .int (nI n), .int vo, .int rt, .int ar, .ref (a + 3), .ref (a + 4)]))) (hx : ab_I G h (a + 1) 16 fx) (hy : ab_I G h (a + 2) 16 fy) (hn : n ≤ 16) : CT G mX5_closes [.ref a] h z (fun v h1 z1 => (∃ w : Int32, v = some (.int w) ∧ ((w = 1 ∧ gm_closes n fx fy) ∨ (w = 0 ∧ ¬ gm_closes n fx fy))) ∧ h1 = h ∧ z1 = z) := by
  refine CT.of (by decide +kernel) rfl rfl (Nat.le_of_ble_eq_true rfl) ?_
  refine v_aload_n dX5_closes_0 rfl 0 rfl ?_
  refine v_getf 4 (ci := 3) (C := RX5) (T := TX5) (N := 10) rfl iwX5_closes_X5 (Nat.le_of_ble_eq_true rfl) (by decide +kernel) dX5_closes_1 (by repeat (first | (with_reducible refine sv_us.trans ?_; exact rfl) | with_reducible assumption | with_reducible refine (sv_un (by omega)).trans ?_)) rfl ?_
  refine v_iconst (v := 4) dX5_closes_4 (by decide) ?_
  refine v_icmp_lt (tgt := 65) dX5_closes_5 (by decide) (fun c_5 => ?_) (fun c_5 => ?_)
  · refine v_iconst (v := 0) dX5_closes_65 (by decide) ?_
    exact v_iret rfl dX5_closes_66 (Nat.le_of_ble_eq_true rfl) (Nat.le_of_ble_eq_true rfl) rfl ⟨⟨_, rfl, by first | exact Or.inr ⟨rfl, fun q => absurd q.1 (sv_lt4 hn c_5)⟩ | exact absurd c_58 (by decide) | exact absurd rfl c_58 | exact Or.inr ⟨rfl, fun q => q.2 ⟨fun _ => c_50, fun _ => c_25⟩⟩ | exact Or.inr ⟨rfl, fun q => q.2 ⟨fun e => absurd e c_25, fun e => absurd e c_50⟩⟩ | exact Or.inl ⟨rfl, sv_ge4 hn c_5, fun q => c_50 (q.mp c_25)⟩ | exact Or.inl ⟨rfl, sv_ge4 hn c_5, fun q => c_25 (q.mpr c_50)⟩⟩, rfl, rfl⟩
  · refine v_aload_n dX5_closes_8 rfl 0 rfl ?_
    refine v_getf 2 (ci := 3) (C := RX5) (T := TX5) (N := 10) rfl iwX5_closes_X5 (Nat.le_of_ble_eq_true rfl) (by decide +kernel) dX5_closes_9 (by repeat (first | (with_reducible refine sv_us.trans ?_; exact rfl) | with_reducible assumption | with_reducible refine (sv_un (by omega)).trans ?_)) rfl ?_
    refine v_iconst (v := 0) dX5_closes_12 (by decide) ?_
    refine v_ialdS (v := fx 0) dX5_closes_13 (by repeat (first | (with_reducible refine sv_us.trans ?_; exact rfl) | with_reducible assumption | with_reducible refine (sv_un (by omega)).trans ?_)) (show vp_in (nI 0) 16 from vp_in_nI (by omega) (by omega)) (by rw [sv_c0]) ?_
    refine v_aload_n dX5_closes_14 rfl 0 rfl ?_
    refine v_getf 2 (ci := 3) (C := RX5) (T := TX5) (N := 10) rfl iwX5_closes_X5 (Nat.le_of_ble_eq_true rfl) (by decide +kernel) dX5_closes_15 (by repeat (first | (with_reducible refine sv_us.trans ?_; exact rfl) | with_reducible assumption | with_reducible refine (sv_un (by omega)).trans ?_)) rfl ?_
    refine v_aload_n dX5_closes_18 rfl 0 rfl ?_
    refine v_getf 4 (ci := 3) (C := RX5) (T := TX5) (N := 10) rfl iwX5_closes_X5 (Nat.le_of_ble_eq_true rfl) (by decide +kernel) dX5_closes_19 (by repeat (first | (with_reducible refine sv_us.trans ?_; exact rfl) | with_reducible assumption | with_reducible refine (sv_un (by omega)).trans ?_)) rfl ?_
    refine v_iconst (v := 1) dX5_closes_22 (by decide) ?_
    refine v_isub dX5_closes_23 ?_
    refine v_ialdS (v := fx (n - 1)) dX5_closes_24 (by repeat (first | (with_reducible refine sv_us.trans ?_; exact rfl) | with_reducible assumption | with_reducible refine (sv_un (by omega)).trans ?_)) (by rw [sv_prd (by have := sv_ge4 hn c_5; omega)]; exact vp_in_nI (by have := sv_ge4 hn c_5; omega) (by omega)) (by rw [sv_prd (by have := sv_ge4 hn c_5; omega), nI_clamp (by omega)]) ?_
    refine v_icmp_ne (tgt := 32) dX5_closes_25 (by decide) (fun c_25 => ?_) (fun c_25 => ?_)
    · refine v_iconst (v := 0) dX5_closes_32 (by decide) ?_
      refine v_aload_n dX5_closes_33 rfl 0 rfl ?_
      refine v_getf 3 (ci := 3) (C := RX5) (T := TX5) (N := 10) rfl iwX5_closes_X5 (Nat.le_of_ble_eq_true rfl) (by decide +kernel) dX5_closes_34 (by repeat (first | (with_reducible refine sv_us.trans ?_; exact rfl) | with_reducible assumption | with_reducible refine (sv_un (by omega)).trans ?_)) rfl ?_
      refine v_iconst (v := 0) dX5_closes_37 (by decide) ?_
      refine v_ialdS (v := fy 0) dX5_closes_38 (by repeat (first | (with_reducible refine sv_us.trans ?_; exact rfl) | with_reducible assumption | with_reducible refine (sv_un (by omega)).trans ?_)) (show vp_in (nI 0) 16 from vp_in_nI (by omega) (by omega)) (by rw [sv_c0]) ?_
      refine v_aload_n dX5_closes_39 rfl 0 rfl ?_
      refine v_getf 3 (ci := 3) (C := RX5) (T := TX5) (N := 10) rfl iwX5_closes_X5 (Nat.le_of_ble_eq_true rfl) (by decide +kernel) dX5_closes_40 (by repeat (first | (with_reducible refine sv_us.trans ?_; exact rfl) | with_reducible assumption | with_reducible refine (sv_un (by omega)).trans ?_)) rfl ?_
      refine v_aload_n dX5_closes_43 rfl 0 rfl ?_
      refine v_getf 4 (ci := 3) (C := RX5) (T := TX5) (N := 10) rfl iwX5_closes_X5 (Nat.le_of_ble_eq_true rfl) (by decide +kernel) dX5_closes_44 (by repeat (first | (with_reducible refine sv_us.trans ?_; exact rfl) | with_reducible assumption | with_reducible refine (sv_un (by omega)).trans ?_)) rfl ?_
      refine v_iconst (v := 1) dX5_closes_47 (by decide) ?_
      refine v_isub dX5_closes_48 ?_
      refine v_ialdS (v := fy (n - 1)) dX5_closes_49 (by repeat (first | (with_reducible refine sv_us.trans ?_; exact rfl) | with_reducible assumption | with_reducible refine (sv_un (by omega)).trans ?_)) (by rw [sv_prd (by have := sv_ge4 hn c_5; omega)]; exact vp_in_nI (by have := sv_ge4 hn c_5; omega) (by omega)) (by rw [sv_prd (by have := sv_ge4 hn c_5; omega), nI_clamp (by omega)]) ?_
      refine v_icmp_ne (tgt := 57) dX5_closes_50 (by decide) (fun c_50 => ?_) (fun c_50 => ?_)
      · refine v_iconst (v := 0) dX5_closes_57 (by decide) ?_
        refine v_icmp_eq (tgt := 65) dX5_closes_58 (by decide) (fun c_58 => ?_) (fun c_58 => ?_)
        · refine v_iconst (v := 0) dX5_closes_65 (by decide) ?_
          exact v_iret rfl dX5_closes_66 (Nat.le_of_ble_eq_true rfl) (Nat.le_of_ble_eq_true rfl) rfl ⟨⟨_, rfl, by first | exact Or.inr ⟨rfl, fun q => absurd q.1 (sv_lt4 hn c_5)⟩ | exact absurd c_58 (by decide) | exact absurd rfl c_58 | exact Or.inr ⟨rfl, fun q => q.2 ⟨fun _ => c_50, fun _ => c_25⟩⟩ | exact Or.inr ⟨rfl, fun q => q.2 ⟨fun e => absurd e c_25, fun e => absurd e c_50⟩⟩ | exact Or.inl ⟨rfl, sv_ge4 hn c_5, fun q => c_50 (q.mp c_25)⟩ | exact Or.inl ⟨rfl, sv_ge4 hn c_5, fun q => c_25 (q.mpr c_50)⟩⟩, rfl, rfl⟩
        · refine v_iconst (v := 1) dX5_closes_61 (by decide) ?_
          refine v_goto (tgt := 66) dX5_closes_62 (by decide) ?_
          exact v_iret rfl dX5_closes_66 (Nat.le_of_ble_eq_true rfl) (Nat.le_of_ble_eq_true rfl) rfl ⟨⟨_, rfl, by first | exact Or.inr ⟨rfl, fun q => absurd q.1 (sv_lt4 hn c_5)⟩ | exact absurd c_58 (by decide) | exact absurd rfl c_58 | exact Or.inr ⟨rfl, fun q => q.2 ⟨fun _ => c_50, fun _ => c_25⟩⟩ | exact Or.inr ⟨rfl, fun q => q.2 ⟨fun e => absurd e c_25, fun e => absurd e c_50⟩⟩ | exact Or.inl ⟨rfl, sv_ge4 hn c_5, fun q => c_50 (q.mp c_25)⟩ | exact Or.inl ⟨rfl, sv_ge4 hn c_5, fun q => c_25 (q.mpr c_50)⟩⟩, rfl, rfl⟩
      · refine v_iconst (v := 1) dX5_closes_53 (by decide) ?_
        refine v_goto (tgt := 58) dX5_closes_54 (by decide) ?_
        refine v_icmp_eq (tgt := 65) dX5_closes_58 (by decide) (fun c_58 => ?_) (fun c_58 => ?_)
        · refine v_iconst (v := 0) dX5_closes_65 (by decide) ?_
          exact v_iret rfl dX5_closes_66 (Nat.le_of_ble_eq_true rfl) (Nat.le_of_ble_eq_true rfl) rfl ⟨⟨_, rfl, by first | exact Or.inr ⟨rfl, fun q => absurd q.1 (sv_lt4 hn c_5)⟩ | exact absurd c_58 (by decide) | exact absurd rfl c_58 | exact Or.inr ⟨rfl, fun q => q.2 ⟨fun _ => c_50, fun _ => c_25⟩⟩ | exact Or.inr ⟨rfl, fun q => q.2 ⟨fun e => absurd e c_25, fun e => absurd e c_50⟩⟩ | exact Or.inl ⟨rfl, sv_ge4 hn c_5, fun q => c_50 (q.mp c_25)⟩ | exact Or.inl ⟨rfl, sv_ge4 hn c_5, fun q => c_25 (q.mpr c_50)⟩⟩, rfl, rfl⟩
        · refine v_iconst (v := 1) dX5_closes_61 (by decide) ?_
          refine v_goto (tgt := 66) dX5_closes_62 (by decide) ?_
          exact v_iret rfl dX5_closes_66 (Nat.le_of_ble_eq_true rfl) (Nat.le_of_ble_eq_true rfl) rfl ⟨⟨_, rfl, by first | exact Or.inr ⟨rfl, fun q => absurd q.1 (sv_lt4 hn c_5)⟩ | exact absurd c_58 (by decide) | exact absurd rfl c_58 | exact Or.inr ⟨rfl, fun q => q.2 ⟨fun _ => c_50, fun _ => c_25⟩⟩ | exact Or.inr ⟨rfl, fun q => q.2 ⟨fun e => absurd e c_25, fun e => absurd e c_50⟩⟩ | exact Or.inl ⟨rfl, sv_ge4 hn c_5, fun q => c_50 (q.mp c_25)⟩ | exact Or.inl ⟨rfl, sv_ge4 hn c_5, fun q => c_25 (q.mpr c_50)⟩⟩, rfl, rfl⟩
    · refine v_iconst (v := 1) dX5_closes_28 (by decide) ?_
      refine v_goto (tgt := 33) dX5_closes_29 (by decide) ?_
      refine v_aload_n dX5_closes_33 rfl 0 rfl ?_
      refine v_getf 3 (ci := 3) (C := RX5) (T := TX5) (N := 10) rfl iwX5_closes_X5 (Nat.le_of_ble_eq_true rfl) (by decide +kernel) dX5_closes_34 (by repeat (first | (with_reducible refine sv_us.trans ?_; exact rfl) | with_reducible assumption | with_reducible refine (sv_un (by omega)).trans ?_)) rfl ?_
      refine v_iconst (v := 0) dX5_closes_37 (by decide) ?_
      refine v_ialdS (v := fy 0) dX5_closes_38 (by repeat (first | (with_reducible refine sv_us.trans ?_; exact rfl) | with_reducible assumption | with_reducible refine (sv_un (by omega)).trans ?_)) (show vp_in (nI 0) 16 from vp_in_nI (by omega) (by omega)) (by rw [sv_c0]) ?_
      refine v_aload_n dX5_closes_39 rfl 0 rfl ?_
      refine v_getf 3 (ci := 3) (C := RX5) (T := TX5) (N := 10) rfl iwX5_closes_X5 (Nat.le_of_ble_eq_true rfl) (by decide +kernel) dX5_closes_40 (by repeat (first | (with_reducible refine sv_us.trans ?_; exact rfl) | with_reducible assumption | with_reducible refine (sv_un (by omega)).trans ?_)) rfl ?_
      refine v_aload_n dX5_closes_43 rfl 0 rfl ?_
      refine v_getf 4 (ci := 3) (C := RX5) (T := TX5) (N := 10) rfl iwX5_closes_X5 (Nat.le_of_ble_eq_true rfl) (by decide +kernel) dX5_closes_44 (by repeat (first | (with_reducible refine sv_us.trans ?_; exact rfl) | with_reducible assumption | with_reducible refine (sv_un (by omega)).trans ?_)) rfl ?_
      refine v_iconst (v := 1) dX5_closes_47 (by decide) ?_
      refine v_isub dX5_closes_48 ?_
      refine v_ialdS (v := fy (n - 1)) dX5_closes_49 (by repeat (first | (with_reducible refine sv_us.trans ?_; exact rfl) | with_reducible assumption | with_reducible refine (sv_un (by omega)).trans ?_)) (by rw [sv_prd (by have := sv_ge4 hn c_5; omega)]; exact vp_in_nI (by have := sv_ge4 hn c_5; omega) (by omega)) (by rw [sv_prd (by have := sv_ge4 hn c_5; omega), nI_clamp (by omega)]) ?_
      refine v_icmp_ne (tgt := 57) dX5_closes_50 (by decide) (fun c_50 => ?_) (fun c_50 => ?_)
      · refine v_iconst (v := 0) dX5_closes_57 (by decide) ?_
        refine v_icmp_eq (tgt := 65) dX5_closes_58 (by decide) (fun c_58 => ?_) (fun c_58 => ?_)
        · refine v_iconst (v := 0) dX5_closes_65 (by decide) ?_
          exact v_iret rfl dX5_closes_66 (Nat.le_of_ble_eq_true rfl) (Nat.le_of_ble_eq_true rfl) rfl ⟨⟨_, rfl, by first | exact Or.inr ⟨rfl, fun q => absurd q.1 (sv_lt4 hn c_5)⟩ | exact absurd c_58 (by decide) | exact absurd rfl c_58 | exact Or.inr ⟨rfl, fun q => q.2 ⟨fun _ => c_50, fun _ => c_25⟩⟩ | exact Or.inr ⟨rfl, fun q => q.2 ⟨fun e => absurd e c_25, fun e => absurd e c_50⟩⟩ | exact Or.inl ⟨rfl, sv_ge4 hn c_5, fun q => c_50 (q.mp c_25)⟩ | exact Or.inl ⟨rfl, sv_ge4 hn c_5, fun q => c_25 (q.mpr c_50)⟩⟩, rfl, rfl⟩
        · refine v_iconst (v := 1) dX5_closes_61 (by decide) ?_
          refine v_goto (tgt := 66) dX5_closes_62 (by decide) ?_
          exact v_iret rfl dX5_closes_66 (Nat.le_of_ble_eq_true rfl) (Nat.le_of_ble_eq_true rfl) rfl ⟨⟨_, rfl, by first | exact Or.inr ⟨rfl, fun q => absurd q.1 (sv_lt4 hn c_5)⟩ | exact absurd c_58 (by decide) | exact absurd rfl c_58 | exact Or.inr ⟨rfl, fun q => q.2 ⟨fun _ => c_50, fun _ => c_25⟩⟩ | exact Or.inr ⟨rfl, fun q => q.2 ⟨fun e => absurd e c_25, fun e => absurd e c_50⟩⟩ | exact Or.inl ⟨rfl, sv_ge4 hn c_5, fun q => c_50 (q.mp c_25)⟩ | exact Or.inl ⟨rfl, sv_ge4 hn c_5, fun q => c_25 (q.mpr c_50)⟩⟩, rfl, rfl⟩
      · refine v_iconst (v := 1) dX5_closes_53 (by decide) ?_
        refine v_goto (tgt := 58) dX5_closes_54 (by decide) ?_
        refine v_icmp_eq (tgt := 65) dX5_closes_58 (by decide) (fun c_58 => ?_) (fun c_58 => ?_)
        · refine v_iconst (v := 0) dX5_closes_65 (by decide) ?_
          exact v_iret rfl dX5_closes_66 (Nat.le_of_ble_eq_true rfl) (Nat.le_of_ble_eq_true rfl) rfl ⟨⟨_, rfl, by first | exact Or.inr ⟨rfl, fun q => absurd q.1 (sv_lt4 hn c_5)⟩ | exact absurd c_58 (by decide) | exact absurd rfl c_58 | exact Or.inr ⟨rfl, fun q => q.2 ⟨fun _ => c_50, fun _ => c_25⟩⟩ | exact Or.inr ⟨rfl, fun q => q.2 ⟨fun e => absurd e c_25, fun e => absurd e c_50⟩⟩ | exact Or.inl ⟨rfl, sv_ge4 hn c_5, fun q => c_50 (q.mp c_25)⟩ | exact Or.inl ⟨rfl, sv_ge4 hn c_5, fun q => c_25 (q.mpr c_50)⟩⟩, rfl, rfl⟩
        · refine v_iconst (v := 1) dX5_closes_61 (by decide) ?_
          refine v_goto (tgt := 66) dX5_closes_62 (by decide) ?_
          exact v_iret rfl dX5_closes_66 (Nat.le_of_ble_eq_true rfl) (Nat.le_of_ble_eq_true rfl) rfl ⟨⟨_, rfl, by first | exact Or.inr ⟨rfl, fun q => absurd q.1 (sv_lt4 hn c_5)⟩ | exact absurd c_58 (by decide) | exact absurd rfl c_58 | exact Or.inr ⟨rfl, fun q => q.2 ⟨fun _ => c_50, fun _ => c_25⟩⟩ | exact Or.inr ⟨rfl, fun q => q.2 ⟨fun e => absurd e c_25, fun e => absurd e c_50⟩⟩ | exact Or.inl ⟨rfl, sv_ge4 hn c_5, fun q => c_50 (q.mp c_25)⟩ | exact Or.inl ⟨rfl, sv_ge4 hn c_5, fun q => c_25 (q.mpr c_50)⟩⟩, rfl, rfl⟩

abbrev mX5_alternates : sv_M := (cX5_alternates, 2, yX5_alternates, wsX5_alternates, (some .boolean), { frames := 2, cells := 0, slots := 0, locals := 42 }, [])
set_option maxHeartbeats 4000000 in
set_option maxRecDepth 100000 in
theorem l_alternates (G : sv_G) (h : sv_h) (z a n : Nat) (hm ly vo rt ar : Int32) (fx fy : Nat → Int32) (hp : h a = some (.inr (3, [.int hm, .int ly, .ref (a + 1), .ref (a + 2), .int (nI n), .int vo, .int rt, .int ar, .ref (a + 3), .ref (a + 4)]))) (hx : ab_I G h (a + 1) 16 fx) (hy : ab_I G h (a + 2) 16 fy) (hn : n ≤ 16) : ∀ (c i : Nat), i + c = n → (∀ j, j < i → ¬ (fx j = fx (gm_aft n j) ↔ fx (gm_aft n j) = fx (gm_aft n (gm_aft n j)))) → V G mX5_alternates (sv_MQ G mX5_alternates (fun v h1 z1 => (∃ w : Int32, v = some (.int w) ∧ ((w = 1 ∧ gm_alt n fx) ∨ (w = 0 ∧ ¬ gm_alt n fx))) ∧ h1 = h ∧ z1 = z)) 2 [(1, .int (nI i)), (0, .ref a)] [] h z 0 0 := by
  intro c
  induction c with
  | zero =>
    intro i hic ha
    refine v_iload_n dX5_alternates_2 rfl 0 rfl ?_
    refine v_aload_n dX5_alternates_3 rfl 1 rfl ?_
    refine v_getf 4 (ci := 3) (C := RX5) (T := TX5) (N := 10) rfl iwX5_alternates_X5 (Nat.le_of_ble_eq_true rfl) (by decide +kernel) dX5_alternates_4 (by repeat (first | (with_reducible refine sv_us.trans ?_; exact rfl) | with_reducible assumption | with_reducible refine (sv_un (by omega)).trans ?_)) rfl ?_
    refine v_icmp_ge (tgt := 35) dX5_alternates_7 (by decide) (fun c_7 => ?_) (fun c_7 => ?_)
    · refine v_iconst (v := 1) dX5_alternates_35 (by decide) ?_
      exact v_iret rfl dX5_alternates_36 (Nat.le_of_ble_eq_true rfl) (Nat.le_of_ble_eq_true rfl) rfl ⟨⟨1, rfl, Or.inl ⟨rfl, fun j hj => ha j (by omega)⟩⟩, rfl, rfl⟩
    · exact absurd (show nI n ≤ nI i from nI_le (by omega) (by omega)) c_7
  | succ c ih =>
    intro i hic ha
    refine v_iload_n dX5_alternates_2 rfl 0 rfl ?_
    refine v_aload_n dX5_alternates_3 rfl 1 rfl ?_
    refine v_getf 4 (ci := 3) (C := RX5) (T := TX5) (N := 10) rfl iwX5_alternates_X5 (Nat.le_of_ble_eq_true rfl) (by decide +kernel) dX5_alternates_4 (by repeat (first | (with_reducible refine sv_us.trans ?_; exact rfl) | with_reducible assumption | with_reducible refine (sv_un (by omega)).trans ?_)) rfl ?_
    refine v_icmp_ge (tgt := 35) dX5_alternates_7 (by decide) (fun c_7 => ?_) (fun c_7 => ?_)
    · exact absurd c_7 (nI_ge (by omega) (by omega))
    · refine v_aload_n dX5_alternates_10 rfl 1 rfl ?_
      refine v_iload_n dX5_alternates_11 rfl 0 rfl ?_
      refine v_callV (M' := mX5_stands) (n := 1) (As := [_]) (ci := 3) (r := (RX5, TX5, 10)) gX5_alternates_X5_stands rfl (by decide +kernel) ⟨(Nat.le_of_ble_eq_true rfl), (Nat.le_of_ble_eq_true rfl)⟩ rfl rfl dX5_alternates_12 rfl ⟨(Nat.le_of_ble_eq_true rfl), (Nat.le_of_ble_eq_true rfl)⟩ (Nat.le_of_ble_eq_true rfl) (by repeat (first | (with_reducible refine sv_us.trans ?_; exact rfl) | with_reducible assumption | with_reducible refine (sv_un (by omega)).trans ?_)) rfl (c_stands G _ _ a n _ _ _ _ _ fx fy hp hx hy hn i (by omega)) (fun v h1 z1 hq => ?_)
      obtain ⟨rfl, rfl, rfl⟩ := hq
      refine v_aload_n dX5_alternates_15 rfl 1 rfl ?_
      refine v_aload_n dX5_alternates_16 rfl 1 rfl ?_
      refine v_iload_n dX5_alternates_17 rfl 0 rfl ?_
      refine v_callV (M' := mX5_after) (n := 1) (As := [_]) (ci := 3) (r := (RX5, TX5, 10)) gX5_alternates_X5_after rfl (by decide +kernel) ⟨(Nat.le_of_ble_eq_true rfl), (Nat.le_of_ble_eq_true rfl)⟩ rfl rfl dX5_alternates_18 rfl ⟨(Nat.le_of_ble_eq_true rfl), (Nat.le_of_ble_eq_true rfl)⟩ (Nat.le_of_ble_eq_true rfl) (by repeat (first | (with_reducible refine sv_us.trans ?_; exact rfl) | with_reducible assumption | with_reducible refine (sv_un (by omega)).trans ?_)) rfl (c_after G _ _ a n _ _ _ _ _ fx fy hp hx hy hn i (by omega)) (fun v h1 z1 hq => ?_)
      obtain ⟨rfl, rfl, rfl⟩ := hq
      refine v_callV (M' := mX5_stands) (n := 1) (As := [_]) (ci := 3) (r := (RX5, TX5, 10)) gX5_alternates_X5_stands rfl (by decide +kernel) ⟨(Nat.le_of_ble_eq_true rfl), (Nat.le_of_ble_eq_true rfl)⟩ rfl rfl dX5_alternates_21 rfl ⟨(Nat.le_of_ble_eq_true rfl), (Nat.le_of_ble_eq_true rfl)⟩ (Nat.le_of_ble_eq_true rfl) (by repeat (first | (with_reducible refine sv_us.trans ?_; exact rfl) | with_reducible assumption | with_reducible refine (sv_un (by omega)).trans ?_)) rfl (c_stands G _ _ a n _ _ _ _ _ fx fy hp hx hy hn (gm_aft n i) (gm_aft_lt (by omega))) (fun v h1 z1 hq => ?_)
      obtain ⟨rfl, rfl, rfl⟩ := hq
      refine v_icmp_ne (tgt := 29) dX5_alternates_24 (by decide) (fun c_24 => ?_) (fun c_24 => ?_)
      · refine v_iinc (j := 0) (L' := [(1, _), (0, _)]) (v := nI (i + 1)) dX5_alternates_29 rfl (nI_1 _) (Nat.le_of_ble_eq_true rfl) rfl ?_
        refine v_goto (tgt := 2) dX5_alternates_32 (by decide) ?_
        refine v_sub (L' := [(1, _), (0, _)]) [0, 1] rfl ?_
        refine ih (i + 1) (by omega) (fun j hj => ?_)
        by_cases e : j = i
        · rw [e]; exact fun q => c_24 (sv_ifi.mpr q)
        · exact ha j (by omega)
      · refine v_iconst (v := 0) dX5_alternates_27 (by decide) ?_
        exact v_iret rfl dX5_alternates_28 (Nat.le_of_ble_eq_true rfl) (Nat.le_of_ble_eq_true rfl) rfl ⟨⟨0, rfl, Or.inr ⟨rfl, fun q => q i (by omega) (sv_ifi.mp c_24)⟩⟩, rfl, rfl⟩

set_option maxHeartbeats 4000000 in
set_option maxRecDepth 100000 in
theorem c_alternates (G : sv_G) (h : sv_h) (z a n : Nat) (hm ly vo rt ar : Int32) (fx fy : Nat → Int32) (hp : h a = some (.inr (3, [.int hm, .int ly, .ref (a + 1), .ref (a + 2), .int (nI n), .int vo, .int rt, .int ar, .ref (a + 3), .ref (a + 4)]))) (hx : ab_I G h (a + 1) 16 fx) (hy : ab_I G h (a + 2) 16 fy) (hn : n ≤ 16) : CT G mX5_alternates [.ref a] h z (fun v h1 z1 => (∃ w : Int32, v = some (.int w) ∧ ((w = 1 ∧ gm_alt n fx) ∨ (w = 0 ∧ ¬ gm_alt n fx))) ∧ h1 = h ∧ z1 = z) := by
  refine CT.of (by decide +kernel) rfl rfl (Nat.le_of_ble_eq_true rfl) ?_
  refine v_iconst (v := 0) dX5_alternates_0 (by decide) ?_
  refine v_istore_n (L' := [(1, _), (0, _)]) dX5_alternates_1 rfl (Nat.le_of_ble_eq_true rfl) rfl ?_
  refine v_sub (L' := [(1, _), (0, _)]) [0, 1] rfl ?_
  exact l_alternates G h z a n hm ly vo rt ar fx fy hp hx hy hn n 0 (by omega) (fun j hj => absurd hj (Nat.not_lt_zero j))

abbrev mX5_touch : sv_M := (cX5_touch, 5, yX5_touch, wsX5_touch, (some .boolean), { frames := 1, cells := 0, slots := 0, locals := 40 }, [])
set_option maxHeartbeats 4000000 in
set_option maxRecDepth 100000 in
theorem c_touch (G : sv_G) (h : sv_h) (z a n : Nat) (hm ly vo rt ar : Int32) (fx fy : Nat → Int32) (hp : h a = some (.inr (3, [.int hm, .int ly, .ref (a + 1), .ref (a + 2), .int (nI n), .int vo, .int rt, .int ar, .ref (a + 3), .ref (a + 4)]))) (hx : ab_I G h (a + 1) 16 fx) (hy : ab_I G h (a + 2) 16 fy) (hn : n ≤ 16) (i j : Nat) (hi : i < n) (hj : j < n) : CT G mX5_touch [.ref a, .int (nI i), .int (nI j)] h z (fun v h1 z1 => (∃ w : Int32, v = some (.int w) ∧ ((w = 1 ∧ gm_touch n fx fy i j) ∨ (w = 0 ∧ ¬ gm_touch n fx fy i j))) ∧ h1 = h ∧ z1 = z) := by
  refine CT.of (by decide +kernel) rfl rfl (Nat.le_of_ble_eq_true rfl) ?_
  refine v_aload_n dX5_touch_0 rfl 0 rfl ?_
  refine v_iload_n dX5_touch_1 rfl 1 rfl ?_
  refine v_callV (M' := mX5_after) (n := 1) (As := [_]) (ci := 3) (r := (RX5, TX5, 10)) gX5_touch_X5_after rfl (by decide +kernel) ⟨(Nat.le_of_ble_eq_true rfl), (Nat.le_of_ble_eq_true rfl)⟩ rfl rfl dX5_touch_2 rfl ⟨(Nat.le_of_ble_eq_true rfl), (Nat.le_of_ble_eq_true rfl)⟩ (Nat.le_of_ble_eq_true rfl) (by repeat (first | (with_reducible refine sv_us.trans ?_; exact rfl) | with_reducible assumption | with_reducible refine (sv_un (by omega)).trans ?_)) rfl (c_after G _ _ a n _ _ _ _ _ fx fy hp hx hy hn i hi) (fun v h1 z1 hq => ?_)
  obtain ⟨rfl, rfl, rfl⟩ := hq
  refine v_istore_n (L' := [(3, _), (0, _), (1, _), (2, _)]) dX5_touch_5 rfl (Nat.le_of_ble_eq_true rfl) rfl ?_
  refine v_aload_n dX5_touch_6 rfl 1 rfl ?_
  refine v_iload_n dX5_touch_7 rfl 3 rfl ?_
  refine v_callV (M' := mX5_after) (n := 1) (As := [_]) (ci := 3) (r := (RX5, TX5, 10)) gX5_touch_X5_after rfl (by decide +kernel) ⟨(Nat.le_of_ble_eq_true rfl), (Nat.le_of_ble_eq_true rfl)⟩ rfl rfl dX5_touch_8 rfl ⟨(Nat.le_of_ble_eq_true rfl), (Nat.le_of_ble_eq_true rfl)⟩ (Nat.le_of_ble_eq_true rfl) (by repeat (first | (with_reducible refine sv_us.trans ?_; exact rfl) | with_reducible assumption | with_reducible refine (sv_un (by omega)).trans ?_)) rfl (c_after G _ _ a n _ _ _ _ _ fx fy hp hx hy hn j hj) (fun v h1 z1 hq => ?_)
  obtain ⟨rfl, rfl, rfl⟩ := hq
  refine v_istore (L' := [(4, _), (3, _), (0, _), (1, _), (2, _)]) dX5_touch_11 (Nat.le_of_ble_eq_true rfl) rfl ?_
  refine v_aload_n dX5_touch_13 rfl 2 rfl ?_
  refine v_getf 2 (ci := 3) (C := RX5) (T := TX5) (N := 10) rfl iwX5_touch_X5 (Nat.le_of_ble_eq_true rfl) (by decide +kernel) dX5_touch_14 (by repeat (first | (with_reducible refine sv_us.trans ?_; exact rfl) | with_reducible assumption | with_reducible refine (sv_un (by omega)).trans ?_)) rfl ?_
  refine v_iload_n dX5_touch_17 rfl 3 rfl ?_
  refine v_ialdS (v := fx i) dX5_touch_18 (by repeat (first | (with_reducible refine sv_us.trans ?_; exact rfl) | with_reducible assumption | with_reducible refine (sv_un (by omega)).trans ?_)) (vp_in_nI (by have q9 := hi; omega) (by omega)) (by rw [nI_clamp (by have q9 := hi; omega)]) ?_
  refine v_aload_n dX5_touch_19 rfl 2 rfl ?_
  refine v_getf 2 (ci := 3) (C := RX5) (T := TX5) (N := 10) rfl iwX5_touch_X5 (Nat.le_of_ble_eq_true rfl) (by decide +kernel) dX5_touch_20 (by repeat (first | (with_reducible refine sv_us.trans ?_; exact rfl) | with_reducible assumption | with_reducible refine (sv_un (by omega)).trans ?_)) rfl ?_
  refine v_iload_n dX5_touch_23 rfl 1 rfl ?_
  refine v_ialdS (v := fx (gm_aft n i)) dX5_touch_24 (by repeat (first | (with_reducible refine sv_us.trans ?_; exact rfl) | with_reducible assumption | with_reducible refine (sv_un (by omega)).trans ?_)) (vp_in_nI (by have q9 := (gm_aft_lt hi); omega) (by omega)) (by rw [nI_clamp (by have q9 := (gm_aft_lt hi); omega)]) ?_
  refine v_mmin (by decide +kernel) (by decide +kernel) (by decide +kernel) (by decide +kernel) dX5_touch_25 (Nat.le_of_ble_eq_true rfl) (Nat.le_of_ble_eq_true rfl) (Nat.le_of_ble_eq_true rfl) (Nat.le_of_ble_eq_true rfl) ?_
  refine v_aload_n dX5_touch_28 rfl 2 rfl ?_
  refine v_getf 2 (ci := 3) (C := RX5) (T := TX5) (N := 10) rfl iwX5_touch_X5 (Nat.le_of_ble_eq_true rfl) (by decide +kernel) dX5_touch_29 (by repeat (first | (with_reducible refine sv_us.trans ?_; exact rfl) | with_reducible assumption | with_reducible refine (sv_un (by omega)).trans ?_)) rfl ?_
  refine v_iload_n dX5_touch_32 rfl 4 rfl ?_
  refine v_ialdS (v := fx j) dX5_touch_33 (by repeat (first | (with_reducible refine sv_us.trans ?_; exact rfl) | with_reducible assumption | with_reducible refine (sv_un (by omega)).trans ?_)) (vp_in_nI (by have q9 := hj; omega) (by omega)) (by rw [nI_clamp (by have q9 := hj; omega)]) ?_
  refine v_aload_n dX5_touch_34 rfl 2 rfl ?_
  refine v_getf 2 (ci := 3) (C := RX5) (T := TX5) (N := 10) rfl iwX5_touch_X5 (Nat.le_of_ble_eq_true rfl) (by decide +kernel) dX5_touch_35 (by repeat (first | (with_reducible refine sv_us.trans ?_; exact rfl) | with_reducible assumption | with_reducible refine (sv_un (by omega)).trans ?_)) rfl ?_
  refine v_iload dX5_touch_38 0 rfl ?_
  refine v_ialdS (v := fx (gm_aft n j)) dX5_touch_40 (by repeat (first | (with_reducible refine sv_us.trans ?_; exact rfl) | with_reducible assumption | with_reducible refine (sv_un (by omega)).trans ?_)) (vp_in_nI (by have q9 := (gm_aft_lt hj); omega) (by omega)) (by rw [nI_clamp (by have q9 := (gm_aft_lt hj); omega)]) ?_
  refine v_mmax (by decide +kernel) (by decide +kernel) (by decide +kernel) (by decide +kernel) dX5_touch_41 (Nat.le_of_ble_eq_true rfl) (Nat.le_of_ble_eq_true rfl) (Nat.le_of_ble_eq_true rfl) (Nat.le_of_ble_eq_true rfl) ?_
  refine v_icmp_gt (tgt := 153) dX5_touch_44 (by decide) (fun c_44 => ?_) (fun c_44 => ?_)
  · refine v_iconst (v := 0) dX5_touch_153 (by decide) ?_
    exact v_iret rfl dX5_touch_154 (Nat.le_of_ble_eq_true rfl) (Nat.le_of_ble_eq_true rfl) rfl ⟨⟨_, rfl, by first | exact Or.inr ⟨rfl, fun q => absurd q.1 (Int32.not_le.mpr c_44)⟩ | exact Or.inr ⟨rfl, fun q => absurd q.2.1 (Int32.not_le.mpr c_78)⟩ | exact Or.inr ⟨rfl, fun q => absurd q.2.2.1 (Int32.not_le.mpr c_112)⟩ | exact Or.inr ⟨rfl, fun q => absurd q.2.2.2 (Int32.not_le.mpr c_146)⟩ | exact Or.inl ⟨rfl, Int32.not_lt.mp c_44, Int32.not_lt.mp c_78, Int32.not_lt.mp c_112, Int32.not_lt.mp c_146⟩⟩, rfl, rfl⟩
  · refine v_aload_n dX5_touch_47 rfl 2 rfl ?_
    refine v_getf 2 (ci := 3) (C := RX5) (T := TX5) (N := 10) rfl iwX5_touch_X5 (Nat.le_of_ble_eq_true rfl) (by decide +kernel) dX5_touch_48 (by repeat (first | (with_reducible refine sv_us.trans ?_; exact rfl) | with_reducible assumption | with_reducible refine (sv_un (by omega)).trans ?_)) rfl ?_
    refine v_iload_n dX5_touch_51 rfl 4 rfl ?_
    refine v_ialdS (v := fx j) dX5_touch_52 (by repeat (first | (with_reducible refine sv_us.trans ?_; exact rfl) | with_reducible assumption | with_reducible refine (sv_un (by omega)).trans ?_)) (vp_in_nI (by have q9 := hj; omega) (by omega)) (by rw [nI_clamp (by have q9 := hj; omega)]) ?_
    refine v_aload_n dX5_touch_53 rfl 2 rfl ?_
    refine v_getf 2 (ci := 3) (C := RX5) (T := TX5) (N := 10) rfl iwX5_touch_X5 (Nat.le_of_ble_eq_true rfl) (by decide +kernel) dX5_touch_54 (by repeat (first | (with_reducible refine sv_us.trans ?_; exact rfl) | with_reducible assumption | with_reducible refine (sv_un (by omega)).trans ?_)) rfl ?_
    refine v_iload dX5_touch_57 0 rfl ?_
    refine v_ialdS (v := fx (gm_aft n j)) dX5_touch_59 (by repeat (first | (with_reducible refine sv_us.trans ?_; exact rfl) | with_reducible assumption | with_reducible refine (sv_un (by omega)).trans ?_)) (vp_in_nI (by have q9 := (gm_aft_lt hj); omega) (by omega)) (by rw [nI_clamp (by have q9 := (gm_aft_lt hj); omega)]) ?_
    refine v_mmin (by decide +kernel) (by decide +kernel) (by decide +kernel) (by decide +kernel) dX5_touch_60 (Nat.le_of_ble_eq_true rfl) (Nat.le_of_ble_eq_true rfl) (Nat.le_of_ble_eq_true rfl) (Nat.le_of_ble_eq_true rfl) ?_
    refine v_aload_n dX5_touch_63 rfl 2 rfl ?_
    refine v_getf 2 (ci := 3) (C := RX5) (T := TX5) (N := 10) rfl iwX5_touch_X5 (Nat.le_of_ble_eq_true rfl) (by decide +kernel) dX5_touch_64 (by repeat (first | (with_reducible refine sv_us.trans ?_; exact rfl) | with_reducible assumption | with_reducible refine (sv_un (by omega)).trans ?_)) rfl ?_
    refine v_iload_n dX5_touch_67 rfl 3 rfl ?_
    refine v_ialdS (v := fx i) dX5_touch_68 (by repeat (first | (with_reducible refine sv_us.trans ?_; exact rfl) | with_reducible assumption | with_reducible refine (sv_un (by omega)).trans ?_)) (vp_in_nI (by have q9 := hi; omega) (by omega)) (by rw [nI_clamp (by have q9 := hi; omega)]) ?_
    refine v_aload_n dX5_touch_69 rfl 2 rfl ?_
    refine v_getf 2 (ci := 3) (C := RX5) (T := TX5) (N := 10) rfl iwX5_touch_X5 (Nat.le_of_ble_eq_true rfl) (by decide +kernel) dX5_touch_70 (by repeat (first | (with_reducible refine sv_us.trans ?_; exact rfl) | with_reducible assumption | with_reducible refine (sv_un (by omega)).trans ?_)) rfl ?_
    refine v_iload_n dX5_touch_73 rfl 1 rfl ?_
    refine v_ialdS (v := fx (gm_aft n i)) dX5_touch_74 (by repeat (first | (with_reducible refine sv_us.trans ?_; exact rfl) | with_reducible assumption | with_reducible refine (sv_un (by omega)).trans ?_)) (vp_in_nI (by have q9 := (gm_aft_lt hi); omega) (by omega)) (by rw [nI_clamp (by have q9 := (gm_aft_lt hi); omega)]) ?_
    refine v_mmax (by decide +kernel) (by decide +kernel) (by decide +kernel) (by decide +kernel) dX5_touch_75 (Nat.le_of_ble_eq_true rfl) (Nat.le_of_ble_eq_true rfl) (Nat.le_of_ble_eq_true rfl) (Nat.le_of_ble_eq_true rfl) ?_
    refine v_icmp_gt (tgt := 153) dX5_touch_78 (by decide) (fun c_78 => ?_) (fun c_78 => ?_)
    · refine v_iconst (v := 0) dX5_touch_153 (by decide) ?_
      exact v_iret rfl dX5_touch_154 (Nat.le_of_ble_eq_true rfl) (Nat.le_of_ble_eq_true rfl) rfl ⟨⟨_, rfl, by first | exact Or.inr ⟨rfl, fun q => absurd q.1 (Int32.not_le.mpr c_44)⟩ | exact Or.inr ⟨rfl, fun q => absurd q.2.1 (Int32.not_le.mpr c_78)⟩ | exact Or.inr ⟨rfl, fun q => absurd q.2.2.1 (Int32.not_le.mpr c_112)⟩ | exact Or.inr ⟨rfl, fun q => absurd q.2.2.2 (Int32.not_le.mpr c_146)⟩ | exact Or.inl ⟨rfl, Int32.not_lt.mp c_44, Int32.not_lt.mp c_78, Int32.not_lt.mp c_112, Int32.not_lt.mp c_146⟩⟩, rfl, rfl⟩
    · refine v_aload_n dX5_touch_81 rfl 2 rfl ?_
      refine v_getf 3 (ci := 3) (C := RX5) (T := TX5) (N := 10) rfl iwX5_touch_X5 (Nat.le_of_ble_eq_true rfl) (by decide +kernel) dX5_touch_82 (by repeat (first | (with_reducible refine sv_us.trans ?_; exact rfl) | with_reducible assumption | with_reducible refine (sv_un (by omega)).trans ?_)) rfl ?_
      refine v_iload_n dX5_touch_85 rfl 3 rfl ?_
      refine v_ialdS (v := fy i) dX5_touch_86 (by repeat (first | (with_reducible refine sv_us.trans ?_; exact rfl) | with_reducible assumption | with_reducible refine (sv_un (by omega)).trans ?_)) (vp_in_nI (by have q9 := hi; omega) (by omega)) (by rw [nI_clamp (by have q9 := hi; omega)]) ?_
      refine v_aload_n dX5_touch_87 rfl 2 rfl ?_
      refine v_getf 3 (ci := 3) (C := RX5) (T := TX5) (N := 10) rfl iwX5_touch_X5 (Nat.le_of_ble_eq_true rfl) (by decide +kernel) dX5_touch_88 (by repeat (first | (with_reducible refine sv_us.trans ?_; exact rfl) | with_reducible assumption | with_reducible refine (sv_un (by omega)).trans ?_)) rfl ?_
      refine v_iload_n dX5_touch_91 rfl 1 rfl ?_
      refine v_ialdS (v := fy (gm_aft n i)) dX5_touch_92 (by repeat (first | (with_reducible refine sv_us.trans ?_; exact rfl) | with_reducible assumption | with_reducible refine (sv_un (by omega)).trans ?_)) (vp_in_nI (by have q9 := (gm_aft_lt hi); omega) (by omega)) (by rw [nI_clamp (by have q9 := (gm_aft_lt hi); omega)]) ?_
      refine v_mmin (by decide +kernel) (by decide +kernel) (by decide +kernel) (by decide +kernel) dX5_touch_93 (Nat.le_of_ble_eq_true rfl) (Nat.le_of_ble_eq_true rfl) (Nat.le_of_ble_eq_true rfl) (Nat.le_of_ble_eq_true rfl) ?_
      refine v_aload_n dX5_touch_96 rfl 2 rfl ?_
      refine v_getf 3 (ci := 3) (C := RX5) (T := TX5) (N := 10) rfl iwX5_touch_X5 (Nat.le_of_ble_eq_true rfl) (by decide +kernel) dX5_touch_97 (by repeat (first | (with_reducible refine sv_us.trans ?_; exact rfl) | with_reducible assumption | with_reducible refine (sv_un (by omega)).trans ?_)) rfl ?_
      refine v_iload_n dX5_touch_100 rfl 4 rfl ?_
      refine v_ialdS (v := fy j) dX5_touch_101 (by repeat (first | (with_reducible refine sv_us.trans ?_; exact rfl) | with_reducible assumption | with_reducible refine (sv_un (by omega)).trans ?_)) (vp_in_nI (by have q9 := hj; omega) (by omega)) (by rw [nI_clamp (by have q9 := hj; omega)]) ?_
      refine v_aload_n dX5_touch_102 rfl 2 rfl ?_
      refine v_getf 3 (ci := 3) (C := RX5) (T := TX5) (N := 10) rfl iwX5_touch_X5 (Nat.le_of_ble_eq_true rfl) (by decide +kernel) dX5_touch_103 (by repeat (first | (with_reducible refine sv_us.trans ?_; exact rfl) | with_reducible assumption | with_reducible refine (sv_un (by omega)).trans ?_)) rfl ?_
      refine v_iload dX5_touch_106 0 rfl ?_
      refine v_ialdS (v := fy (gm_aft n j)) dX5_touch_108 (by repeat (first | (with_reducible refine sv_us.trans ?_; exact rfl) | with_reducible assumption | with_reducible refine (sv_un (by omega)).trans ?_)) (vp_in_nI (by have q9 := (gm_aft_lt hj); omega) (by omega)) (by rw [nI_clamp (by have q9 := (gm_aft_lt hj); omega)]) ?_
      refine v_mmax (by decide +kernel) (by decide +kernel) (by decide +kernel) (by decide +kernel) dX5_touch_109 (Nat.le_of_ble_eq_true rfl) (Nat.le_of_ble_eq_true rfl) (Nat.le_of_ble_eq_true rfl) (Nat.le_of_ble_eq_true rfl) ?_
      refine v_icmp_gt (tgt := 153) dX5_touch_112 (by decide) (fun c_112 => ?_) (fun c_112 => ?_)
      · refine v_iconst (v := 0) dX5_touch_153 (by decide) ?_
        exact v_iret rfl dX5_touch_154 (Nat.le_of_ble_eq_true rfl) (Nat.le_of_ble_eq_true rfl) rfl ⟨⟨_, rfl, by first | exact Or.inr ⟨rfl, fun q => absurd q.1 (Int32.not_le.mpr c_44)⟩ | exact Or.inr ⟨rfl, fun q => absurd q.2.1 (Int32.not_le.mpr c_78)⟩ | exact Or.inr ⟨rfl, fun q => absurd q.2.2.1 (Int32.not_le.mpr c_112)⟩ | exact Or.inr ⟨rfl, fun q => absurd q.2.2.2 (Int32.not_le.mpr c_146)⟩ | exact Or.inl ⟨rfl, Int32.not_lt.mp c_44, Int32.not_lt.mp c_78, Int32.not_lt.mp c_112, Int32.not_lt.mp c_146⟩⟩, rfl, rfl⟩
      · refine v_aload_n dX5_touch_115 rfl 2 rfl ?_
        refine v_getf 3 (ci := 3) (C := RX5) (T := TX5) (N := 10) rfl iwX5_touch_X5 (Nat.le_of_ble_eq_true rfl) (by decide +kernel) dX5_touch_116 (by repeat (first | (with_reducible refine sv_us.trans ?_; exact rfl) | with_reducible assumption | with_reducible refine (sv_un (by omega)).trans ?_)) rfl ?_
        refine v_iload_n dX5_touch_119 rfl 4 rfl ?_
        refine v_ialdS (v := fy j) dX5_touch_120 (by repeat (first | (with_reducible refine sv_us.trans ?_; exact rfl) | with_reducible assumption | with_reducible refine (sv_un (by omega)).trans ?_)) (vp_in_nI (by have q9 := hj; omega) (by omega)) (by rw [nI_clamp (by have q9 := hj; omega)]) ?_
        refine v_aload_n dX5_touch_121 rfl 2 rfl ?_
        refine v_getf 3 (ci := 3) (C := RX5) (T := TX5) (N := 10) rfl iwX5_touch_X5 (Nat.le_of_ble_eq_true rfl) (by decide +kernel) dX5_touch_122 (by repeat (first | (with_reducible refine sv_us.trans ?_; exact rfl) | with_reducible assumption | with_reducible refine (sv_un (by omega)).trans ?_)) rfl ?_
        refine v_iload dX5_touch_125 0 rfl ?_
        refine v_ialdS (v := fy (gm_aft n j)) dX5_touch_127 (by repeat (first | (with_reducible refine sv_us.trans ?_; exact rfl) | with_reducible assumption | with_reducible refine (sv_un (by omega)).trans ?_)) (vp_in_nI (by have q9 := (gm_aft_lt hj); omega) (by omega)) (by rw [nI_clamp (by have q9 := (gm_aft_lt hj); omega)]) ?_
        refine v_mmin (by decide +kernel) (by decide +kernel) (by decide +kernel) (by decide +kernel) dX5_touch_128 (Nat.le_of_ble_eq_true rfl) (Nat.le_of_ble_eq_true rfl) (Nat.le_of_ble_eq_true rfl) (Nat.le_of_ble_eq_true rfl) ?_
        refine v_aload_n dX5_touch_131 rfl 2 rfl ?_
        refine v_getf 3 (ci := 3) (C := RX5) (T := TX5) (N := 10) rfl iwX5_touch_X5 (Nat.le_of_ble_eq_true rfl) (by decide +kernel) dX5_touch_132 (by repeat (first | (with_reducible refine sv_us.trans ?_; exact rfl) | with_reducible assumption | with_reducible refine (sv_un (by omega)).trans ?_)) rfl ?_
        refine v_iload_n dX5_touch_135 rfl 3 rfl ?_
        refine v_ialdS (v := fy i) dX5_touch_136 (by repeat (first | (with_reducible refine sv_us.trans ?_; exact rfl) | with_reducible assumption | with_reducible refine (sv_un (by omega)).trans ?_)) (vp_in_nI (by have q9 := hi; omega) (by omega)) (by rw [nI_clamp (by have q9 := hi; omega)]) ?_
        refine v_aload_n dX5_touch_137 rfl 2 rfl ?_
        refine v_getf 3 (ci := 3) (C := RX5) (T := TX5) (N := 10) rfl iwX5_touch_X5 (Nat.le_of_ble_eq_true rfl) (by decide +kernel) dX5_touch_138 (by repeat (first | (with_reducible refine sv_us.trans ?_; exact rfl) | with_reducible assumption | with_reducible refine (sv_un (by omega)).trans ?_)) rfl ?_
        refine v_iload_n dX5_touch_141 rfl 1 rfl ?_
        refine v_ialdS (v := fy (gm_aft n i)) dX5_touch_142 (by repeat (first | (with_reducible refine sv_us.trans ?_; exact rfl) | with_reducible assumption | with_reducible refine (sv_un (by omega)).trans ?_)) (vp_in_nI (by have q9 := (gm_aft_lt hi); omega) (by omega)) (by rw [nI_clamp (by have q9 := (gm_aft_lt hi); omega)]) ?_
        refine v_mmax (by decide +kernel) (by decide +kernel) (by decide +kernel) (by decide +kernel) dX5_touch_143 (Nat.le_of_ble_eq_true rfl) (Nat.le_of_ble_eq_true rfl) (Nat.le_of_ble_eq_true rfl) (Nat.le_of_ble_eq_true rfl) ?_
        refine v_icmp_gt (tgt := 153) dX5_touch_146 (by decide) (fun c_146 => ?_) (fun c_146 => ?_)
        · refine v_iconst (v := 0) dX5_touch_153 (by decide) ?_
          exact v_iret rfl dX5_touch_154 (Nat.le_of_ble_eq_true rfl) (Nat.le_of_ble_eq_true rfl) rfl ⟨⟨_, rfl, by first | exact Or.inr ⟨rfl, fun q => absurd q.1 (Int32.not_le.mpr c_44)⟩ | exact Or.inr ⟨rfl, fun q => absurd q.2.1 (Int32.not_le.mpr c_78)⟩ | exact Or.inr ⟨rfl, fun q => absurd q.2.2.1 (Int32.not_le.mpr c_112)⟩ | exact Or.inr ⟨rfl, fun q => absurd q.2.2.2 (Int32.not_le.mpr c_146)⟩ | exact Or.inl ⟨rfl, Int32.not_lt.mp c_44, Int32.not_lt.mp c_78, Int32.not_lt.mp c_112, Int32.not_lt.mp c_146⟩⟩, rfl, rfl⟩
        · refine v_iconst (v := 1) dX5_touch_149 (by decide) ?_
          refine v_goto (tgt := 154) dX5_touch_150 (by decide) ?_
          exact v_iret rfl dX5_touch_154 (Nat.le_of_ble_eq_true rfl) (Nat.le_of_ble_eq_true rfl) rfl ⟨⟨_, rfl, by first | exact Or.inr ⟨rfl, fun q => absurd q.1 (Int32.not_le.mpr c_44)⟩ | exact Or.inr ⟨rfl, fun q => absurd q.2.1 (Int32.not_le.mpr c_78)⟩ | exact Or.inr ⟨rfl, fun q => absurd q.2.2.1 (Int32.not_le.mpr c_112)⟩ | exact Or.inr ⟨rfl, fun q => absurd q.2.2.2 (Int32.not_le.mpr c_146)⟩ | exact Or.inl ⟨rfl, Int32.not_lt.mp c_44, Int32.not_lt.mp c_78, Int32.not_lt.mp c_112, Int32.not_lt.mp c_146⟩⟩, rfl, rfl⟩

abbrev mX5_crosses : sv_M := (cX5_crosses, 3, yX5_crosses, wsX5_crosses, (some .boolean), { frames := 2, cells := 0, slots := 0, locals := 64 }, [])
set_option maxHeartbeats 4000000 in
set_option maxRecDepth 100000 in
theorem l_crosses1 (G : sv_G) (h : sv_h) (z a n : Nat) (hm ly vo rt ar : Int32) (fx fy : Nat → Int32) (hp : h a = some (.inr (3, [.int hm, .int ly, .ref (a + 1), .ref (a + 2), .int (nI n), .int vo, .int rt, .int ar, .ref (a + 3), .ref (a + 4)]))) (hx : ab_I G h (a + 1) 16 fx) (hy : ab_I G h (a + 2) 16 fy) (hn : n ≤ 16) (i : Nat) (hi : i < n) (hk : (∀ j, i + 2 ≤ j → j < n → gm_aft n j ≠ i → ¬ gm_touch n fx fy i j) → ∀ w2 : Int32, V G mX5_crosses (sv_MQ G mX5_crosses (fun v h1 z1 => (∃ w : Int32, v = some (.int w) ∧ ((w = 0 ∧ gm_free n fx fy) ∨ (w = 1 ∧ ¬ gm_free n fx fy))) ∧ h1 = h ∧ z1 = z)) 48 [(2, .int w2), (1, .int (nI i)), (0, .ref a)] [] h z 0 0) : ∀ (c k : Nat), n ≤ k + c → i + 2 ≤ k → k ≤ 100 → (∀ j, i + 2 ≤ j → j < k → gm_aft n j ≠ i → ¬ gm_touch n fx fy i j) → V G mX5_crosses (sv_MQ G mX5_crosses (fun v h1 z1 => (∃ w : Int32, v = some (.int w) ∧ ((w = 0 ∧ gm_free n fx fy) ∨ (w = 1 ∧ ¬ gm_free n fx fy))) ∧ h1 = h ∧ z1 = z)) 14 [(2, .int (nI k)), (1, .int (nI i)), (0, .ref a)] [] h z 0 0 := by
  intro c
  induction c with
  | zero =>
    intro k hkc hki hk9 hj
    refine v_iload_n dX5_crosses_14 rfl 0 rfl ?_
    refine v_aload_n dX5_crosses_15 rfl 2 rfl ?_
    refine v_getf 4 (ci := 3) (C := RX5) (T := TX5) (N := 10) rfl iwX5_crosses_X5 (Nat.le_of_ble_eq_true rfl) (by decide +kernel) dX5_crosses_16 (by repeat (first | (with_reducible refine sv_us.trans ?_; exact rfl) | with_reducible assumption | with_reducible refine (sv_un (by omega)).trans ?_)) rfl ?_
    refine v_icmp_ge (tgt := 48) dX5_crosses_19 (by decide) (fun c_19 => ?_) (fun c_19 => ?_)
    · exact hk (fun j q1 q2 q3 => hj j q1 (by have q9 := (nI_leI (by omega) (by omega)).mp c_19; omega) q3) _
    · exact absurd (show nI n ≤ nI k from nI_le (by omega) (by omega)) c_19
  | succ c ih =>
    intro k hkc hki hk9 hj
    refine v_iload_n dX5_crosses_14 rfl 0 rfl ?_
    refine v_aload_n dX5_crosses_15 rfl 2 rfl ?_
    refine v_getf 4 (ci := 3) (C := RX5) (T := TX5) (N := 10) rfl iwX5_crosses_X5 (Nat.le_of_ble_eq_true rfl) (by decide +kernel) dX5_crosses_16 (by repeat (first | (with_reducible refine sv_us.trans ?_; exact rfl) | with_reducible assumption | with_reducible refine (sv_un (by omega)).trans ?_)) rfl ?_
    refine v_icmp_ge (tgt := 48) dX5_crosses_19 (by decide) (fun c_19 => ?_) (fun c_19 => ?_)
    · exact hk (fun j q1 q2 q3 => hj j q1 (by have q9 := (nI_leI (by omega) (by omega)).mp c_19; omega) q3) _
    · refine v_aload_n dX5_crosses_22 rfl 2 rfl ?_
      refine v_iload_n dX5_crosses_23 rfl 0 rfl ?_
      refine v_callV (M' := mX5_after) (n := 1) (As := [_]) (ci := 3) (r := (RX5, TX5, 10)) gX5_crosses_X5_after rfl (by decide +kernel) ⟨(Nat.le_of_ble_eq_true rfl), (Nat.le_of_ble_eq_true rfl)⟩ rfl rfl dX5_crosses_24 rfl ⟨(Nat.le_of_ble_eq_true rfl), (Nat.le_of_ble_eq_true rfl)⟩ (Nat.le_of_ble_eq_true rfl) (by repeat (first | (with_reducible refine sv_us.trans ?_; exact rfl) | with_reducible assumption | with_reducible refine (sv_un (by omega)).trans ?_)) rfl (c_after G _ _ a n _ _ _ _ _ fx fy hp hx hy hn k ((nI_ltI (by omega) (by omega)).mp (Int32.not_le.mp c_19))) (fun v h1 z1 hq => ?_)
      obtain ⟨rfl, rfl, rfl⟩ := hq
      refine v_iload_n dX5_crosses_27 rfl 1 rfl ?_
      refine v_icmp_eq (tgt := 42) dX5_crosses_28 (by decide) (fun c_28 => ?_) (fun c_28 => ?_)
      · refine v_iinc (j := 0) (L' := [(2, _), (1, _), (0, _)]) (v := nI (k + 1)) dX5_crosses_42 rfl (nI_1 _) (Nat.le_of_ble_eq_true rfl) rfl ?_
        refine v_goto (tgt := 14) dX5_crosses_45 (by decide) ?_
        refine v_sub (L' := [(2, _), (1, _), (0, _)]) [0, 1, 2] rfl ?_
        have hkn : k < n := (nI_ltI (by omega) (by omega)).mp (Int32.not_le.mp c_19)
        refine ih (k + 1) (by omega) (by omega) (by omega) (fun j q1 q2 q3 => ?_)
        by_cases e : j = k
        · rw [e] at q3 ⊢
          first
          | exact absurd ((nI_eq (by have := gm_aft_lt hkn; omega) (by omega)).mp c_28) q3
          | exact (hw9.resolve_left (fun r => by rw [r.1] at c_37; exact absurd c_37 (by decide))).2
        · exact hj j q1 (by omega) q3
      · refine v_aload_n dX5_crosses_31 rfl 2 rfl ?_
        refine v_iload_n dX5_crosses_32 rfl 1 rfl ?_
        refine v_iload_n dX5_crosses_33 rfl 0 rfl ?_
        refine v_callV (M' := mX5_touch) (n := 2) (As := [_, _]) (ci := 3) (r := (RX5, TX5, 10)) gX5_crosses_X5_touch rfl (by decide +kernel) ⟨(Nat.le_of_ble_eq_true rfl), (Nat.le_of_ble_eq_true rfl)⟩ rfl rfl dX5_crosses_34 rfl ⟨(Nat.le_of_ble_eq_true rfl), (Nat.le_of_ble_eq_true rfl)⟩ (Nat.le_of_ble_eq_true rfl) (by repeat (first | (with_reducible refine sv_us.trans ?_; exact rfl) | with_reducible assumption | with_reducible refine (sv_un (by omega)).trans ?_)) rfl (c_touch G _ _ a n _ _ _ _ _ fx fy hp hx hy hn i k hi ((nI_ltI (by omega) (by omega)).mp (Int32.not_le.mp c_19))) (fun v h1 z1 hq => ?_)
        obtain ⟨⟨w9, rfl, hw9⟩, rfl, rfl⟩ := hq
        refine v_if_eq (tgt := 42) dX5_crosses_37 (by decide) (fun c_37 => ?_) (fun c_37 => ?_)
        · refine v_iinc (j := 0) (L' := [(2, _), (1, _), (0, _)]) (v := nI (k + 1)) dX5_crosses_42 rfl (nI_1 _) (Nat.le_of_ble_eq_true rfl) rfl ?_
          refine v_goto (tgt := 14) dX5_crosses_45 (by decide) ?_
          refine v_sub (L' := [(2, _), (1, _), (0, _)]) [0, 1, 2] rfl ?_
          have hkn : k < n := (nI_ltI (by omega) (by omega)).mp (Int32.not_le.mp c_19)
          refine ih (k + 1) (by omega) (by omega) (by omega) (fun j q1 q2 q3 => ?_)
          by_cases e : j = k
          · rw [e] at q3 ⊢
            first
            | exact absurd ((nI_eq (by have := gm_aft_lt hkn; omega) (by omega)).mp c_28) q3
            | exact (hw9.resolve_left (fun r => by rw [r.1] at c_37; exact absurd c_37 (by decide))).2
          · exact hj j q1 (by omega) q3
        · refine v_iconst (v := 1) dX5_crosses_40 (by decide) ?_
          exact v_iret rfl dX5_crosses_41 (Nat.le_of_ble_eq_true rfl) (Nat.le_of_ble_eq_true rfl) rfl ⟨⟨1, rfl, Or.inr ⟨rfl, fun q => q i k hki ((nI_ltI (by omega) (by omega)).mp (Int32.not_le.mp c_19)) (fun e => c_28 (by rw [e])) ((hw9.resolve_right (fun r => c_37 r.1)).2)⟩⟩, rfl, rfl⟩

set_option maxHeartbeats 4000000 in
set_option maxRecDepth 100000 in
theorem l_crosses2 (G : sv_G) (h : sv_h) (z a n : Nat) (hm ly vo rt ar : Int32) (fx fy : Nat → Int32) (hp : h a = some (.inr (3, [.int hm, .int ly, .ref (a + 1), .ref (a + 2), .int (nI n), .int vo, .int rt, .int ar, .ref (a + 3), .ref (a + 4)]))) (hx : ab_I G h (a + 1) 16 fx) (hy : ab_I G h (a + 2) 16 fy) (hn : n ≤ 16) : ∀ (c i : Nat), i + c = n → (∀ i0 j, i0 < i → i0 + 2 ≤ j → j < n → gm_aft n j ≠ i0 → ¬ gm_touch n fx fy i0 j) → V G mX5_crosses (sv_MQ G mX5_crosses (fun v h1 z1 => (∃ w : Int32, v = some (.int w) ∧ ((w = 0 ∧ gm_free n fx fy) ∨ (w = 1 ∧ ¬ gm_free n fx fy))) ∧ h1 = h ∧ z1 = z)) 2 [(1, .int (nI i)), (0, .ref a)] [] h z 0 0 := by
  intro c
  induction c with
  | zero =>
    intro i hic ha
    refine v_iload_n dX5_crosses_2 rfl 0 rfl ?_
    refine v_aload_n dX5_crosses_3 rfl 1 rfl ?_
    refine v_getf 4 (ci := 3) (C := RX5) (T := TX5) (N := 10) rfl iwX5_crosses_X5 (Nat.le_of_ble_eq_true rfl) (by decide +kernel) dX5_crosses_4 (by repeat (first | (with_reducible refine sv_us.trans ?_; exact rfl) | with_reducible assumption | with_reducible refine (sv_un (by omega)).trans ?_)) rfl ?_
    refine v_icmp_ge (tgt := 54) dX5_crosses_7 (by decide) (fun c_7 => ?_) (fun c_7 => ?_)
    · refine v_iconst (v := 0) dX5_crosses_54 (by decide) ?_
      exact v_iret rfl dX5_crosses_55 (Nat.le_of_ble_eq_true rfl) (Nat.le_of_ble_eq_true rfl) rfl ⟨⟨0, rfl, Or.inl ⟨rfl, fun i0 j q1 q2 q3 => ha i0 j (by omega) q1 q2 q3⟩⟩, rfl, rfl⟩
    · exact absurd (show nI n ≤ nI i from nI_le (by omega) (by omega)) c_7
  | succ c ih =>
    intro i hic ha
    refine v_iload_n dX5_crosses_2 rfl 0 rfl ?_
    refine v_aload_n dX5_crosses_3 rfl 1 rfl ?_
    refine v_getf 4 (ci := 3) (C := RX5) (T := TX5) (N := 10) rfl iwX5_crosses_X5 (Nat.le_of_ble_eq_true rfl) (by decide +kernel) dX5_crosses_4 (by repeat (first | (with_reducible refine sv_us.trans ?_; exact rfl) | with_reducible assumption | with_reducible refine (sv_un (by omega)).trans ?_)) rfl ?_
    refine v_icmp_ge (tgt := 54) dX5_crosses_7 (by decide) (fun c_7 => ?_) (fun c_7 => ?_)
    · exact absurd c_7 (nI_ge (by omega) (by omega))
    · refine v_iload_n dX5_crosses_10 rfl 0 rfl ?_
      refine v_iconst (v := 2) dX5_crosses_11 (by decide) ?_
      refine v_iadd dX5_crosses_12 ?_
      refine v_istore_n (L' := [(2, _), (1, _), (0, _)]) dX5_crosses_13 rfl (Nat.le_of_ble_eq_true rfl) rfl ?_
      rw [show nI i + 2 = nI (i + 2) from nI_add i 2]
      refine v_sub (L' := [(2, _), (1, _), (0, _)]) [0, 1, 2] rfl ?_
      refine l_crosses1 G h z a n hm ly vo rt ar fx fy hp hx hy hn i (by omega) (fun hno w2 => ?_) n (i + 2) (by omega) (by omega) (by omega) (fun j q1 q2 => absurd q2 (by omega))
      refine v_iinc (j := 1) (L' := [(1, _), (2, _), (0, _)]) (v := nI (i + 1)) dX5_crosses_48 rfl (nI_1 _) (Nat.le_of_ble_eq_true rfl) rfl ?_
      refine v_goto (tgt := 2) dX5_crosses_51 (by decide) ?_
      refine v_sub (L' := [(1, _), (0, _)]) [0, 2] rfl ?_
      refine ih (i + 1) (by omega) (fun i0 j q0 q1 q2 q3 => ?_)
      by_cases e : i0 = i
      · rw [e] at q1 q3 ⊢; exact hno j q1 q2 q3
      · exact ha i0 j (by omega) q1 q2 q3

set_option maxHeartbeats 4000000 in
set_option maxRecDepth 100000 in
theorem c_crosses (G : sv_G) (h : sv_h) (z a n : Nat) (hm ly vo rt ar : Int32) (fx fy : Nat → Int32) (hp : h a = some (.inr (3, [.int hm, .int ly, .ref (a + 1), .ref (a + 2), .int (nI n), .int vo, .int rt, .int ar, .ref (a + 3), .ref (a + 4)]))) (hx : ab_I G h (a + 1) 16 fx) (hy : ab_I G h (a + 2) 16 fy) (hn : n ≤ 16) : CT G mX5_crosses [.ref a] h z (fun v h1 z1 => (∃ w : Int32, v = some (.int w) ∧ ((w = 0 ∧ gm_free n fx fy) ∨ (w = 1 ∧ ¬ gm_free n fx fy))) ∧ h1 = h ∧ z1 = z) := by
  refine CT.of (by decide +kernel) rfl rfl (Nat.le_of_ble_eq_true rfl) ?_
  refine v_iconst (v := 0) dX5_crosses_0 (by decide) ?_
  refine v_istore_n (L' := [(1, _), (0, _)]) dX5_crosses_1 rfl (Nat.le_of_ble_eq_true rfl) rfl ?_
  refine v_sub (L' := [(1, _), (0, _)]) [0, 1] rfl ?_
  exact l_crosses2 G h z a n hm ly vo rt ar fx fy hp hx hy hn n 0 (by omega) (fun i0 j q => absurd q (Nat.not_lt_zero i0))

abbrev mX5_heading : sv_M := (cX5_heading, 3, yX5_heading, wsX5_heading, (some .int), { frames := 2, cells := 0, slots := 0, locals := 42 }, [])
set_option maxHeartbeats 4000000 in
set_option maxRecDepth 100000 in
theorem c_heading (G : sv_G) (h : sv_h) (z a n : Nat) (hm ly vo rt ar : Int32) (fx fy : Nat → Int32) (hp : h a = some (.inr (3, [.int hm, .int ly, .ref (a + 1), .ref (a + 2), .int (nI n), .int vo, .int rt, .int ar, .ref (a + 3), .ref (a + 4)]))) (hx : ab_I G h (a + 1) 16 fx) (hy : ab_I G h (a + 2) 16 fy) (hn : n ≤ 16) (i : Nat) (hi : i < n) : CT G mX5_heading [.ref a, .int (nI i)] h z (fun v h1 z1 => v = some (.int (gm_head n fx fy i)) ∧ h1 = h ∧ z1 = z) := by
  refine CT.of (by decide +kernel) rfl rfl (Nat.le_of_ble_eq_true rfl) ?_
  refine v_aload_n dX5_heading_0 rfl 0 rfl ?_
  refine v_iload_n dX5_heading_1 rfl 1 rfl ?_
  refine v_callV (M' := mX5_after) (n := 1) (As := [_]) (ci := 3) (r := (RX5, TX5, 10)) gX5_heading_X5_after rfl (by decide +kernel) ⟨(Nat.le_of_ble_eq_true rfl), (Nat.le_of_ble_eq_true rfl)⟩ rfl rfl dX5_heading_2 rfl ⟨(Nat.le_of_ble_eq_true rfl), (Nat.le_of_ble_eq_true rfl)⟩ (Nat.le_of_ble_eq_true rfl) (by repeat (first | (with_reducible refine sv_us.trans ?_; exact rfl) | with_reducible assumption | with_reducible refine (sv_un (by omega)).trans ?_)) rfl (c_after G _ _ a n _ _ _ _ _ fx fy hp hx hy hn i hi) (fun v h1 z1 hq => ?_)
  obtain ⟨rfl, rfl, rfl⟩ := hq
  refine v_istore_n (L' := [(2, _), (0, _), (1, _)]) dX5_heading_5 rfl (Nat.le_of_ble_eq_true rfl) rfl ?_
  refine v_aload_n dX5_heading_6 rfl 1 rfl ?_
  refine v_iload_n dX5_heading_7 rfl 2 rfl ?_
  refine v_callV (M' := mX5_stands) (n := 1) (As := [_]) (ci := 3) (r := (RX5, TX5, 10)) gX5_heading_X5_stands rfl (by decide +kernel) ⟨(Nat.le_of_ble_eq_true rfl), (Nat.le_of_ble_eq_true rfl)⟩ rfl rfl dX5_heading_8 rfl ⟨(Nat.le_of_ble_eq_true rfl), (Nat.le_of_ble_eq_true rfl)⟩ (Nat.le_of_ble_eq_true rfl) (by repeat (first | (with_reducible refine sv_us.trans ?_; exact rfl) | with_reducible assumption | with_reducible refine (sv_un (by omega)).trans ?_)) rfl (c_stands G _ _ a n _ _ _ _ _ fx fy hp hx hy hn i hi) (fun v h1 z1 hq => ?_)
  obtain ⟨rfl, rfl, rfl⟩ := hq
  refine v_if_eq (tgt := 35) dX5_heading_11 (by decide) (fun c_11 => ?_) (fun c_11 => ?_)
  · refine v_aload_n dX5_heading_35 rfl 1 rfl ?_
    refine v_getf 2 (ci := 3) (C := RX5) (T := TX5) (N := 10) rfl iwX5_heading_X5 (Nat.le_of_ble_eq_true rfl) (by decide +kernel) dX5_heading_36 (by repeat (first | (with_reducible refine sv_us.trans ?_; exact rfl) | with_reducible assumption | with_reducible refine (sv_un (by omega)).trans ?_)) rfl ?_
    refine v_iload_n dX5_heading_39 rfl 0 rfl ?_
    refine v_ialdS (v := fx (gm_aft n i)) dX5_heading_40 (by repeat (first | (with_reducible refine sv_us.trans ?_; exact rfl) | with_reducible assumption | with_reducible refine (sv_un (by omega)).trans ?_)) (vp_in_nI (by have q9 := (gm_aft_lt hi); omega) (by omega)) (by rw [nI_clamp (by have q9 := (gm_aft_lt hi); omega)]) ?_
    refine v_aload_n dX5_heading_41 rfl 1 rfl ?_
    refine v_getf 2 (ci := 3) (C := RX5) (T := TX5) (N := 10) rfl iwX5_heading_X5 (Nat.le_of_ble_eq_true rfl) (by decide +kernel) dX5_heading_42 (by repeat (first | (with_reducible refine sv_us.trans ?_; exact rfl) | with_reducible assumption | with_reducible refine (sv_un (by omega)).trans ?_)) rfl ?_
    refine v_iload_n dX5_heading_45 rfl 2 rfl ?_
    refine v_ialdS (v := fx i) dX5_heading_46 (by repeat (first | (with_reducible refine sv_us.trans ?_; exact rfl) | with_reducible assumption | with_reducible refine (sv_un (by omega)).trans ?_)) (vp_in_nI (by have q9 := hi; omega) (by omega)) (by rw [nI_clamp (by have q9 := hi; omega)]) ?_
    refine v_icmp_le (tgt := 54) dX5_heading_47 (by decide) (fun c_47 => ?_) (fun c_47 => ?_)
    · refine v_iconst (v := 2) dX5_heading_54 (by decide) ?_
      exact v_iret rfl dX5_heading_55 (Nat.le_of_ble_eq_true rfl) (Nat.le_of_ble_eq_true rfl) rfl ⟨by first | (rw [gm_head, if_neg (sv_ift c_11), if_pos (Int32.not_le.mp c_47)]) | (rw [gm_head, if_neg (sv_ift c_11), if_neg (Int32.not_lt.mpr c_47)]), rfl, rfl⟩
    · refine v_iconst (v := 0) dX5_heading_50 (by decide) ?_
      refine v_goto (tgt := 55) dX5_heading_51 (by decide) ?_
      exact v_iret rfl dX5_heading_55 (Nat.le_of_ble_eq_true rfl) (Nat.le_of_ble_eq_true rfl) rfl ⟨by first | (rw [gm_head, if_neg (sv_ift c_11), if_pos (Int32.not_le.mp c_47)]) | (rw [gm_head, if_neg (sv_ift c_11), if_neg (Int32.not_lt.mpr c_47)]), rfl, rfl⟩
  · refine v_aload_n dX5_heading_14 rfl 1 rfl ?_
    refine v_getf 3 (ci := 3) (C := RX5) (T := TX5) (N := 10) rfl iwX5_heading_X5 (Nat.le_of_ble_eq_true rfl) (by decide +kernel) dX5_heading_15 (by repeat (first | (with_reducible refine sv_us.trans ?_; exact rfl) | with_reducible assumption | with_reducible refine (sv_un (by omega)).trans ?_)) rfl ?_
    refine v_iload_n dX5_heading_18 rfl 0 rfl ?_
    refine v_ialdS (v := fy (gm_aft n i)) dX5_heading_19 (by repeat (first | (with_reducible refine sv_us.trans ?_; exact rfl) | with_reducible assumption | with_reducible refine (sv_un (by omega)).trans ?_)) (vp_in_nI (by have q9 := (gm_aft_lt hi); omega) (by omega)) (by rw [nI_clamp (by have q9 := (gm_aft_lt hi); omega)]) ?_
    refine v_aload_n dX5_heading_20 rfl 1 rfl ?_
    refine v_getf 3 (ci := 3) (C := RX5) (T := TX5) (N := 10) rfl iwX5_heading_X5 (Nat.le_of_ble_eq_true rfl) (by decide +kernel) dX5_heading_21 (by repeat (first | (with_reducible refine sv_us.trans ?_; exact rfl) | with_reducible assumption | with_reducible refine (sv_un (by omega)).trans ?_)) rfl ?_
    refine v_iload_n dX5_heading_24 rfl 2 rfl ?_
    refine v_ialdS (v := fy i) dX5_heading_25 (by repeat (first | (with_reducible refine sv_us.trans ?_; exact rfl) | with_reducible assumption | with_reducible refine (sv_un (by omega)).trans ?_)) (vp_in_nI (by have q9 := hi; omega) (by omega)) (by rw [nI_clamp (by have q9 := hi; omega)]) ?_
    refine v_icmp_le (tgt := 33) dX5_heading_26 (by decide) (fun c_26 => ?_) (fun c_26 => ?_)
    · refine v_iconst (v := 3) dX5_heading_33 (by decide) ?_
      exact v_iret rfl dX5_heading_34 (Nat.le_of_ble_eq_true rfl) (Nat.le_of_ble_eq_true rfl) rfl ⟨by first | (rw [gm_head, if_pos (sv_ifn c_11), if_pos (Int32.not_le.mp c_26)]) | (rw [gm_head, if_pos (sv_ifn c_11), if_neg (Int32.not_lt.mpr c_26)]), rfl, rfl⟩
    · refine v_iconst (v := 1) dX5_heading_29 (by decide) ?_
      refine v_goto (tgt := 34) dX5_heading_30 (by decide) ?_
      exact v_iret rfl dX5_heading_34 (Nat.le_of_ble_eq_true rfl) (Nat.le_of_ble_eq_true rfl) rfl ⟨by first | (rw [gm_head, if_pos (sv_ifn c_11), if_pos (Int32.not_le.mp c_26)]) | (rw [gm_head, if_pos (sv_ifn c_11), if_neg (Int32.not_lt.mpr c_26)]), rfl, rfl⟩

