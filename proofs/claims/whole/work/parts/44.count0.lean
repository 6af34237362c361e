theorem iwX12_kindsInUse_X12 : ∀ w ∈ wsX120, w ∈ wsX12_kindsInUse := by decide +kernel
theorem iwX12_kindsInUse_X7 : ∀ w ∈ wsX70, w ∈ wsX12_kindsInUse := by decide +kernel
theorem iwX12_count_X10 : ∀ w ∈ wsX100, w ∈ wsX12_count := by decide +kernel
theorem iwX12_count_X11 : ∀ w ∈ wsX110, w ∈ wsX12_count := by decide +kernel
theorem iwX12_count_X12 : ∀ w ∈ wsX120, w ∈ wsX12_count := by decide +kernel
theorem iwX12_count_X9 : ∀ w ∈ wsX90, w ∈ wsX12_count := by decide +kernel
theorem iwX13_count_X13 : ∀ w ∈ wsX130, w ∈ wsX13_count := by decide +kernel
set_option maxRecDepth 20000 in
theorem ggX12_count_X12_kindsInUse : GoodIn wsX12_count wsX12_kindsInUse := goodIn_r _ [14, 3, 15, 16, 17, 18, 19, 20, 21, 22, 23, 24, 25, 26, 27, 28, 29, 42, 43, 44, 45, 46, 47, 48, 49] (by decide +kernel) (by decide +kernel)
set_option maxRecDepth 20000 in
theorem gX12_count_X12_kindsInUse : GoodIn wsX12_count (wsV RX12 251 RX12 yX12_kindsInUse wsX12_kindsInUse) := goodIn_app (goodIn_of _ (by decide +kernel)) ggX12_count_X12_kindsInUse
theorem dX12_count_0 : decode cX12_count 0 = .ok (.iload_n 1, 1) := by decide +kernel
theorem dX12_count_1 : decode cX12_count 1 = .ok (.tableswitch 69 0 4 #[35, 40, 45, 53, 61], 35) := by decide +kernel
theorem dX12_count_36 : decode cX12_count 36 = .ok (.aload_n 0, 1) := by decide +kernel
theorem dX12_count_37 : decode cX12_count 37 = .ok (.getfield 95, 3) := by decide +kernel
theorem dX12_count_40 : decode cX12_count 40 = .ok (.ireturn, 1) := by decide +kernel
theorem dX12_count_41 : decode cX12_count 41 = .ok (.aload_n 0, 1) := by decide +kernel
theorem dX12_count_42 : decode cX12_count 42 = .ok (.invokevirtual 251, 3) := by decide +kernel
theorem dX12_count_45 : decode cX12_count 45 = .ok (.ireturn, 1) := by decide +kernel
theorem dX12_count_46 : decode cX12_count 46 = .ok (.aload_n 0, 1) := by decide +kernel
theorem dX12_count_47 : decode cX12_count 47 = .ok (.getfield 61, 3) := by decide +kernel
theorem dX12_count_50 : decode cX12_count 50 = .ok (.getfield 216, 3) := by decide +kernel
theorem dX12_count_53 : decode cX12_count 53 = .ok (.ireturn, 1) := by decide +kernel
theorem dX12_count_54 : decode cX12_count 54 = .ok (.aload_n 0, 1) := by decide +kernel
theorem dX12_count_55 : decode cX12_count 55 = .ok (.getfield 47, 3) := by decide +kernel
theorem dX12_count_58 : decode cX12_count 58 = .ok (.getfield 232, 3) := by decide +kernel
theorem dX12_count_61 : decode cX12_count 61 = .ok (.ireturn, 1) := by decide +kernel
theorem dX12_count_62 : decode cX12_count 62 = .ok (.aload_n 0, 1) := by decide +kernel
theorem dX12_count_63 : decode cX12_count 63 = .ok (.getfield 22, 3) := by decide +kernel
theorem dX12_count_66 : decode cX12_count 66 = .ok (.getfield 254, 3) := by decide +kernel
theorem dX12_count_69 : decode cX12_count 69 = .ok (.ireturn, 1) := by decide +kernel
theorem dX12_count_70 : decode cX12_count 70 = .ok (.new 121, 3) := by decide +kernel
theorem dX12_count_73 : decode cX12_count 73 = .ok (.dup, 1) := by decide +kernel
theorem dX12_count_74 : decode cX12_count 74 = .ok (.ldc 255, 2) := by decide +kernel
theorem dX12_count_76 : decode cX12_count 76 = .ok (.invokespecial 125, 3) := by decide +kernel
theorem dX12_count_79 : decode cX12_count 79 = .ok (.athrow, 1) := by decide +kernel
theorem dX12_kindsInUse_0 : decode cX12_kindsInUse 0 = .ok (.iconst 0, 1) := by decide +kernel
theorem dX12_kindsInUse_1 : decode cX12_kindsInUse 1 = .ok (.istore_n 1, 1) := by decide +kernel
theorem dX12_kindsInUse_2 : decode cX12_kindsInUse 2 = .ok (.iconst 0, 1) := by decide +kernel
theorem dX12_kindsInUse_3 : decode cX12_kindsInUse 3 = .ok (.istore_n 2, 1) := by decide +kernel
theorem dX12_kindsInUse_4 : decode cX12_kindsInUse 4 = .ok (.iload_n 2, 1) := by decide +kernel
theorem dX12_kindsInUse_5 : decode cX12_kindsInUse 5 = .ok (.aload_n 0, 1) := by decide +kernel
theorem dX12_kindsInUse_6 : decode cX12_kindsInUse 6 = .ok (.getfield 95, 3) := by decide +kernel
theorem dX12_kindsInUse_9 : decode cX12_kindsInUse 9 = .ok (.if_icmp .ge 65, 3) := by decide +kernel
theorem dX12_kindsInUse_12 : decode cX12_kindsInUse 12 = .ok (.iconst 1, 1) := by decide +kernel
theorem dX12_kindsInUse_13 : decode cX12_kindsInUse 13 = .ok (.istore_n 3, 1) := by decide +kernel
theorem dX12_kindsInUse_14 : decode cX12_kindsInUse 14 = .ok (.iconst 0, 1) := by decide +kernel
theorem dX12_kindsInUse_15 : decode cX12_kindsInUse 15 = .ok (.istore 4, 2) := by decide +kernel
theorem dX12_kindsInUse_17 : decode cX12_kindsInUse 17 = .ok (.iload 4, 2) := by decide +kernel
theorem dX12_kindsInUse_19 : decode cX12_kindsInUse 19 = .ok (.iload_n 2, 1) := by decide +kernel
theorem dX12_kindsInUse_20 : decode cX12_kindsInUse 20 = .ok (.if_icmp .ge 41, 3) := by decide +kernel
theorem dX12_kindsInUse_23 : decode cX12_kindsInUse 23 = .ok (.iload_n 3, 1) := by decide +kernel
theorem dX12_kindsInUse_24 : decode cX12_kindsInUse 24 = .ok (.ifCond .eq 29, 3) := by decide +kernel
theorem dX12_kindsInUse_27 : decode cX12_kindsInUse 27 = .ok (.aload_n 0, 1) := by decide +kernel
theorem dX12_kindsInUse_28 : decode cX12_kindsInUse 28 = .ok (.getfield 53, 3) := by decide +kernel
theorem dX12_kindsInUse_31 : decode cX12_kindsInUse 31 = .ok (.iload 4, 2) := by decide +kernel
theorem dX12_kindsInUse_33 : decode cX12_kindsInUse 33 = .ok (.aaload, 1) := by decide +kernel
theorem dX12_kindsInUse_34 : decode cX12_kindsInUse 34 = .ok (.getfield 267, 3) := by decide +kernel
theorem dX12_kindsInUse_37 : decode cX12_kindsInUse 37 = .ok (.aload_n 0, 1) := by decide +kernel
theorem dX12_kindsInUse_38 : decode cX12_kindsInUse 38 = .ok (.getfield 53, 3) := by decide +kernel
theorem dX12_kindsInUse_41 : decode cX12_kindsInUse 41 = .ok (.iload_n 2, 1) := by decide +kernel
theorem dX12_kindsInUse_42 : decode cX12_kindsInUse 42 = .ok (.aaload, 1) := by decide +kernel
theorem dX12_kindsInUse_43 : decode cX12_kindsInUse 43 = .ok (.getfield 267, 3) := by decide +kernel
theorem dX12_kindsInUse_46 : decode cX12_kindsInUse 46 = .ok (.if_acmp .eq 7, 3) := by decide +kernel
theorem dX12_kindsInUse_49 : decode cX12_kindsInUse 49 = .ok (.iconst 1, 1) := by decide +kernel
theorem dX12_kindsInUse_50 : decode cX12_kindsInUse 50 = .ok (.goto 4, 3) := by decide +kernel
theorem dX12_kindsInUse_53 : decode cX12_kindsInUse 53 = .ok (.iconst 0, 1) := by decide +kernel
theorem dX12_kindsInUse_54 : decode cX12_kindsInUse 54 = .ok (.istore_n 3, 1) := by decide +kernel
theorem dX12_kindsInUse_55 : decode cX12_kindsInUse 55 = .ok (.iinc 4 1, 3) := by decide +kernel
theorem dX12_kindsInUse_58 : decode cX12_kindsInUse 58 = .ok (.goto (-41), 3) := by decide +kernel
theorem dX12_kindsInUse_61 : decode cX12_kindsInUse 61 = .ok (.iload_n 3, 1) := by decide +kernel
theorem dX12_kindsInUse_62 : decode cX12_kindsInUse 62 = .ok (.ifCond .eq 6, 3) := by decide +kernel
theorem dX12_kindsInUse_65 : decode cX12_kindsInUse 65 = .ok (.iinc 1 1, 3) := by decide +kernel
theorem dX12_kindsInUse_68 : decode cX12_kindsInUse 68 = .ok (.iinc 2 1, 3) := by decide +kernel
theorem dX12_kindsInUse_71 : decode cX12_kindsInUse 71 = .ok (.goto (-67), 3) := by decide +kernel
theorem dX12_kindsInUse_74 : decode cX12_kindsInUse 74 = .ok (.iload_n 1, 1) := by decide +kernel
theorem dX12_kindsInUse_75 : decode cX12_kindsInUse 75 = .ok (.ireturn, 1) := by decide +kernel
theorem dX13_count_0 : decode cX13_count 0 = .ok (.aload_n 0, 1) := by decide +kernel
theorem dX13_count_1 : decode cX13_count 1 = .ok (.iload_n 1, 1) := by decide +kernel
theorem dX13_count_2 : decode cX13_count 2 = .ok (.ifCond .lt 8, 3) := by decide +kernel
theorem dX13_count_5 : decode cX13_count 5 = .ok (.iload_n 1, 1) := by decide +kernel
theorem dX13_count_6 : decode cX13_count 6 = .ok (.iconst 4, 1) := by decide +kernel
theorem dX13_count_7 : decode cX13_count 7 = .ok (.if_icmp .le 7, 3) := by decide +kernel
theorem dX13_count_10 : decode cX13_count 10 = .ok (.iconst 1, 1) := by decide +kernel
theorem dX13_count_11 : decode cX13_count 11 = .ok (.goto 4, 3) := by decide +kernel
theorem dX13_count_14 : decode cX13_count 14 = .ok (.iconst 0, 1) := by decide +kernel
theorem dX13_count_15 : decode cX13_count 15 = .ok (.putfield 141, 3) := by decide +kernel
theorem dX13_count_18 : decode cX13_count 18 = .ok (.iconst 0, 1) := by decide +kernel
theorem dX13_count_19 : decode cX13_count 19 = .ok (.istore_n 2, 1) := by decide +kernel
theorem dX13_count_20 : decode cX13_count 20 = .ok (.iconst 0, 1) := by decide +kernel
theorem dX13_count_21 : decode cX13_count 21 = .ok (.istore_n 3, 1) := by decide +kernel
theorem dX13_count_22 : decode cX13_count 22 = .ok (.iload_n 3, 1) := by decide +kernel
theorem dX13_count_23 : decode cX13_count 23 = .ok (.bipush 10, 2) := by decide +kernel
theorem dX13_count_25 : decode cX13_count 25 = .ok (.if_icmp .gt 66, 3) := by decide +kernel
theorem dX13_count_28 : decode cX13_count 28 = .ok (.iconst 0, 1) := by decide +kernel
theorem dX13_count_29 : decode cX13_count 29 = .ok (.istore 4, 2) := by decide +kernel
theorem dX13_count_31 : decode cX13_count 31 = .ok (.iconst 0, 1) := by decide +kernel
theorem dX13_count_32 : decode cX13_count 32 = .ok (.istore 5, 2) := by decide +kernel
theorem dX13_count_34 : decode cX13_count 34 = .ok (.iload 5, 2) := by decide +kernel
theorem dX13_count_36 : decode cX13_count 36 = .ok (.aload_n 0, 1) := by decide +kernel
theorem dX13_count_37 : decode cX13_count 37 = .ok (.getfield 342, 3) := by decide +kernel
theorem dX13_count_40 : decode cX13_count 40 = .ok (.if_icmp .ge 32, 3) := by decide +kernel
theorem dX13_count_43 : decode cX13_count 43 = .ok (.iload 4, 2) := by decide +kernel
theorem dX13_count_45 : decode cX13_count 45 = .ok (.ifCond .ne 14, 3) := by decide +kernel
theorem dX13_count_48 : decode cX13_count 48 = .ok (.aload_n 0, 1) := by decide +kernel
theorem dX13_count_49 : decode cX13_count 49 = .ok (.getfield 47, 3) := by decide +kernel
theorem dX13_count_52 : decode cX13_count 52 = .ok (.iload 5, 2) := by decide +kernel
theorem dX13_count_54 : decode cX13_count 54 = .ok (.iaload, 1) := by decide +kernel
theorem dX13_count_55 : decode cX13_count 55 = .ok (.iload_n 3, 1) := by decide +kernel
theorem dX13_count_56 : decode cX13_count 56 = .ok (.if_icmp .ne 7, 3) := by decide +kernel
theorem dX13_count_59 : decode cX13_count 59 = .ok (.iconst 1, 1) := by decide +kernel
theorem dX13_count_60 : decode cX13_count 60 = .ok (.goto 4, 3) := by decide +kernel
theorem dX13_count_63 : decode cX13_count 63 = .ok (.iconst 0, 1) := by decide +kernel
theorem dX13_count_64 : decode cX13_count 64 = .ok (.istore 4, 2) := by decide +kernel
theorem dX13_count_66 : decode cX13_count 66 = .ok (.iinc 5 1, 3) := by decide +kernel
theorem dX13_count_69 : decode cX13_count 69 = .ok (.goto (-35), 3) := by decide +kernel
theorem dX13_count_72 : decode cX13_count 72 = .ok (.iload_n 2, 1) := by decide +kernel
theorem dX13_count_73 : decode cX13_count 73 = .ok (.iload 4, 2) := by decide +kernel
theorem dX13_count_75 : decode cX13_count 75 = .ok (.ifCond .eq 7, 3) := by decide +kernel
theorem dX13_count_78 : decode cX13_count 78 = .ok (.iconst 1, 1) := by decide +kernel
theorem dX13_count_79 : decode cX13_count 79 = .ok (.goto 4, 3) := by decide +kernel
theorem dX13_count_82 : decode cX13_count 82 = .ok (.iconst 0, 1) := by decide +kernel
theorem dX13_count_83 : decode cX13_count 83 = .ok (.iadd, 1) := by decide +kernel
theorem dX13_count_84 : decode cX13_count 84 = .ok (.istore_n 2, 1) := by decide +kernel
theorem dX13_count_85 : decode cX13_count 85 = .ok (.iinc 3 1, 3) := by decide +kernel
theorem dX13_count_88 : decode cX13_count 88 = .ok (.goto (-66), 3) := by decide +kernel
theorem dX13_count_91 : decode cX13_count 91 = .ok (.aload_n 0, 1) := by decide +kernel
theorem dX13_count_92 : decode cX13_count 92 = .ok (.getfield 141, 3) := by decide +kernel
theorem dX13_count_95 : decode cX13_count 95 = .ok (.ifCond .le 7, 3) := by decide +kernel
theorem dX13_count_98 : decode cX13_count 98 = .ok (.iconst 0, 1) := by decide +kernel
theorem dX13_count_99 : decode cX13_count 99 = .ok (.goto 51, 3) := by decide +kernel
theorem dX13_count_102 : decode cX13_count 102 = .ok (.iload_n 1, 1) := by decide +kernel
theorem dX13_count_103 : decode cX13_count 103 = .ok (.ifCond .ne 10, 3) := by decide +kernel
theorem dX13_count_106 : decode cX13_count 106 = .ok (.aload_n 0, 1) := by decide +kernel
theorem dX13_count_107 : decode cX13_count 107 = .ok (.getfield 342, 3) := by decide +kernel
theorem dX13_count_110 : decode cX13_count 110 = .ok (.goto 40, 3) := by decide +kernel
theorem dX13_count_113 : decode cX13_count 113 = .ok (.iload_n 1, 1) := by decide +kernel
theorem dX13_count_114 : decode cX13_count 114 = .ok (.iconst 1, 1) := by decide +kernel
theorem dX13_count_115 : decode cX13_count 115 = .ok (.if_icmp .ne 7, 3) := by decide +kernel
theorem dX13_count_118 : decode cX13_count 118 = .ok (.iload_n 2, 1) := by decide +kernel
theorem dX13_count_119 : decode cX13_count 119 = .ok (.goto 31, 3) := by decide +kernel
theorem dX13_count_122 : decode cX13_count 122 = .ok (.iload_n 1, 1) := by decide +kernel
theorem dX13_count_123 : decode cX13_count 123 = .ok (.iconst 2, 1) := by decide +kernel
theorem dX13_count_124 : decode cX13_count 124 = .ok (.if_icmp .ne 10, 3) := by decide +kernel
theorem dX13_count_127 : decode cX13_count 127 = .ok (.aload_n 0, 1) := by decide +kernel
theorem dX13_count_128 : decode cX13_count 128 = .ok (.getfield 356, 3) := by decide +kernel
theorem dX13_count_131 : decode cX13_count 131 = .ok (.goto 19, 3) := by decide +kernel
theorem dX13_count_134 : decode cX13_count 134 = .ok (.iload_n 1, 1) := by decide +kernel
theorem dX13_count_135 : decode cX13_count 135 = .ok (.iconst 3, 1) := by decide +kernel
theorem dX13_count_136 : decode cX13_count 136 = .ok (.if_icmp .ne 10, 3) := by decide +kernel
theorem dX13_count_139 : decode cX13_count 139 = .ok (.aload_n 0, 1) := by decide +kernel
theorem dX13_count_140 : decode cX13_count 140 = .ok (.getfield 251, 3) := by decide +kernel
theorem dX13_count_143 : decode cX13_count 143 = .ok (.goto 7, 3) := by decide +kernel
theorem dX13_count_146 : decode cX13_count 146 = .ok (.aload_n 0, 1) := by decide +kernel
theorem dX13_count_147 : decode cX13_count 147 = .ok (.getfield 377, 3) := by decide +kernel
theorem dX13_count_150 : decode cX13_count 150 = .ok (.ireturn, 1) := by decide +kernel

abbrev mX12_kindsInUse : sv_M := (cX12_kindsInUse, 5, yX12_kindsInUse, wsX12_kindsInUse, (some .int), { frames := 20, cells := 0, slots := 0, locals := 1000 }, [])
