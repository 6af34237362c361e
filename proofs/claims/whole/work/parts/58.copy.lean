theorem iwX11_describe_X11 : ∀ w ∈ wsX110, w ∈ wsX11_describe := by decide +kernel
theorem iwX11_isAsked_X11 : ∀ w ∈ wsX110, w ∈ wsX11_isAsked := by decide +kernel
theorem iwX11_covers_X11 : ∀ w ∈ wsX110, w ∈ wsX11_covers := by decide +kernel
theorem iwX11_add_X11 : ∀ w ∈ wsX110, w ∈ wsX11_add := by decide +kernel
theorem iwX13_isWaived_X13 : ∀ w ∈ wsX130, w ∈ wsX13_isWaived := by decide +kernel
set_option maxRecDepth 20000 in
theorem ggX11_covers_X11_describe : GoodIn wsX11_covers wsX11_describe := goodIn_r _ [6, 7, 8, 9, 10, 11, 12, 13, 14, 20, 21, 22, 23, 24, 25, 26, 27, 28, 29] (by decide +kernel) (by decide +kernel)
set_option maxRecDepth 20000 in
theorem gX11_covers_X11_describe : GoodIn wsX11_covers (wsV RX11 20 RX11 yX11_describe wsX11_describe) := goodIn_app (goodIn_of _ (by decide +kernel)) ggX11_covers_X11_describe
set_option maxRecDepth 20000 in
theorem ggX11_covers_X11_isAsked : GoodIn wsX11_covers wsX11_isAsked := goodIn_r _ [18, 19, 7, 20, 21, 22] (by decide +kernel) (by decide +kernel)
set_option maxRecDepth 20000 in
theorem gX11_covers_X11_isAsked : GoodIn wsX11_covers (wsV RX11 24 RX11 yX11_isAsked wsX11_isAsked) := goodIn_app (goodIn_of _ (by decide +kernel)) ggX11_covers_X11_isAsked
theorem dX11_covers_0 : decode cX11_covers 0 = .ok (.aload_n 0, 1) := by decide +kernel
theorem dX11_covers_1 : decode cX11_covers 1 = .ok (.iload_n 1, 1) := by decide +kernel
theorem dX11_covers_2 : decode cX11_covers 2 = .ok (.aload_n 2, 1) := by decide +kernel
theorem dX11_covers_3 : decode cX11_covers 3 = .ok (.iload_n 3, 1) := by decide +kernel
theorem dX11_covers_4 : decode cX11_covers 4 = .ok (.invokevirtual 20, 3) := by decide +kernel
theorem dX11_covers_7 : decode cX11_covers 7 = .ok (.iconst 0, 1) := by decide +kernel
theorem dX11_covers_8 : decode cX11_covers 8 = .ok (.istore 4, 2) := by decide +kernel
theorem dX11_covers_10 : decode cX11_covers 10 = .ok (.iload 4, 2) := by decide +kernel
theorem dX11_covers_12 : decode cX11_covers 12 = .ok (.aload_n 0, 1) := by decide +kernel
theorem dX11_covers_13 : decode cX11_covers 13 = .ok (.getfield 16, 3) := by decide +kernel
theorem dX11_covers_16 : decode cX11_covers 16 = .ok (.if_icmp .ge 20, 3) := by decide +kernel
theorem dX11_covers_19 : decode cX11_covers 19 = .ok (.aload_n 0, 1) := by decide +kernel
theorem dX11_covers_20 : decode cX11_covers 20 = .ok (.iload 4, 2) := by decide +kernel
theorem dX11_covers_22 : decode cX11_covers 22 = .ok (.invokevirtual 24, 3) := by decide +kernel
theorem dX11_covers_25 : decode cX11_covers 25 = .ok (.ifCond .eq 5, 3) := by decide +kernel
theorem dX11_covers_28 : decode cX11_covers 28 = .ok (.iconst 1, 1) := by decide +kernel
theorem dX11_covers_29 : decode cX11_covers 29 = .ok (.ireturn, 1) := by decide +kernel
theorem dX11_covers_30 : decode cX11_covers 30 = .ok (.iinc 4 1, 3) := by decide +kernel
theorem dX11_covers_33 : decode cX11_covers 33 = .ok (.goto (-23), 3) := by decide +kernel
theorem dX11_covers_36 : decode cX11_covers 36 = .ok (.iconst 0, 1) := by decide +kernel
theorem dX11_covers_37 : decode cX11_covers 37 = .ok (.ireturn, 1) := by decide +kernel
set_option maxRecDepth 20000 in
theorem ggX11_add_X11_describe : GoodIn wsX11_add wsX11_describe := goodIn_r _ [12, 2, 13, 14, 15, 16, 17, 18, 19, 20, 21, 22, 23, 24, 25, 26, 27, 28, 29] (by decide +kernel) (by decide +kernel)
set_option maxRecDepth 20000 in
theorem gX11_add_X11_describe : GoodIn wsX11_add (wsV RX11 20 RX11 yX11_describe wsX11_describe) := goodIn_app (goodIn_of _ (by decide +kernel)) ggX11_add_X11_describe
theorem dX11_add_0 : decode cX11_add 0 = .ok (.aload_n 0, 1) := by decide +kernel
theorem dX11_add_1 : decode cX11_add 1 = .ok (.getfield 16, 3) := by decide +kernel
theorem dX11_add_4 : decode cX11_add 4 = .ok (.bipush 40, 2) := by decide +kernel
theorem dX11_add_6 : decode cX11_add 6 = .ok (.if_icmp .ge 41, 3) := by decide +kernel
theorem dX11_add_9 : decode cX11_add 9 = .ok (.aload_n 0, 1) := by decide +kernel
theorem dX11_add_10 : decode cX11_add 10 = .ok (.iload_n 1, 1) := by decide +kernel
theorem dX11_add_11 : decode cX11_add 11 = .ok (.aload_n 2, 1) := by decide +kernel
theorem dX11_add_12 : decode cX11_add 12 = .ok (.iload_n 3, 1) := by decide +kernel
theorem dX11_add_13 : decode cX11_add 13 = .ok (.invokevirtual 20, 3) := by decide +kernel
theorem dX11_add_16 : decode cX11_add 16 = .ok (.aload_n 0, 1) := by decide +kernel
theorem dX11_add_17 : decode cX11_add 17 = .ok (.getfield 13, 3) := by decide +kernel
theorem dX11_add_20 : decode cX11_add 20 = .ok (.iconst 0, 1) := by decide +kernel
theorem dX11_add_21 : decode cX11_add 21 = .ok (.aload_n 0, 1) := by decide +kernel
theorem dX11_add_22 : decode cX11_add 22 = .ok (.getfield 9, 3) := by decide +kernel
theorem dX11_add_25 : decode cX11_add 25 = .ok (.aload_n 0, 1) := by decide +kernel
theorem dX11_add_26 : decode cX11_add 26 = .ok (.getfield 16, 3) := by decide +kernel
theorem dX11_add_29 : decode cX11_add 29 = .ok (.bipush 8, 2) := by decide +kernel
theorem dX11_add_31 : decode cX11_add 31 = .ok (.imul, 1) := by decide +kernel
theorem dX11_add_32 : decode cX11_add 32 = .ok (.bipush 8, 2) := by decide +kernel
theorem dX11_add_34 : decode cX11_add 34 = .ok (.invokestatic 28, 3) := by decide +kernel
theorem dX11_add_37 : decode cX11_add 37 = .ok (.aload_n 0, 1) := by decide +kernel
theorem dX11_add_38 : decode cX11_add 38 = .ok (.dup, 1) := by decide +kernel
theorem dX11_add_39 : decode cX11_add 39 = .ok (.getfield 16, 3) := by decide +kernel
theorem dX11_add_42 : decode cX11_add 42 = .ok (.iconst 1, 1) := by decide +kernel
theorem dX11_add_43 : decode cX11_add 43 = .ok (.iadd, 1) := by decide +kernel
theorem dX11_add_44 : decode cX11_add 44 = .ok (.putfield 16, 3) := by decide +kernel
theorem dX11_add_47 : decode cX11_add 47 = .ok (.return_, 1) := by decide +kernel
set_option maxRecDepth 20000 in
theorem ggX11_describe_X10_value : GoodIn wsX11_describe wsX10_value := goodIn_r _ [6, 7, 8, 12, 13, 14, 15, 16, 17, 18] (by decide +kernel) (by decide +kernel)
set_option maxRecDepth 20000 in
theorem gX11_describe_X10_value : GoodIn wsX11_describe (wsV RX11 45 RX10 yX10_value wsX10_value) := goodIn_app (goodIn_of _ (by decide +kernel)) ggX11_describe_X10_value
theorem dX11_describe_0 : decode cX11_describe 0 = .ok (.aload_n 0, 1) := by decide +kernel
theorem dX11_describe_1 : decode cX11_describe 1 = .ok (.getfield 13, 3) := by decide +kernel
theorem dX11_describe_4 : decode cX11_describe 4 = .ok (.iconst 0, 1) := by decide +kernel
theorem dX11_describe_5 : decode cX11_describe 5 = .ok (.iload_n 1, 1) := by decide +kernel
theorem dX11_describe_6 : decode cX11_describe 6 = .ok (.i2l, 1) := by decide +kernel
theorem dX11_describe_7 : decode cX11_describe 7 = .ok (.lastore, 1) := by decide +kernel
theorem dX11_describe_8 : decode cX11_describe 8 = .ok (.aload_n 0, 1) := by decide +kernel
theorem dX11_describe_9 : decode cX11_describe 9 = .ok (.getfield 13, 3) := by decide +kernel
theorem dX11_describe_12 : decode cX11_describe 12 = .ok (.iconst 1, 1) := by decide +kernel
theorem dX11_describe_13 : decode cX11_describe 13 = .ok (.aload_n 2, 1) := by decide +kernel
theorem dX11_describe_14 : decode cX11_describe 14 = .ok (.iload_n 3, 1) := by decide +kernel
theorem dX11_describe_15 : decode cX11_describe 15 = .ok (.bipush 7, 2) := by decide +kernel
theorem dX11_describe_17 : decode cX11_describe 17 = .ok (.invokevirtual 45, 3) := by decide +kernel
theorem dX11_describe_20 : decode cX11_describe 20 = .ok (.lastore, 1) := by decide +kernel
theorem dX11_describe_21 : decode cX11_describe 21 = .ok (.aload_n 0, 1) := by decide +kernel
theorem dX11_describe_22 : decode cX11_describe 22 = .ok (.getfield 13, 3) := by decide +kernel
theorem dX11_describe_25 : decode cX11_describe 25 = .ok (.iconst 2, 1) := by decide +kernel
theorem dX11_describe_26 : decode cX11_describe 26 = .ok (.aload_n 2, 1) := by decide +kernel
theorem dX11_describe_27 : decode cX11_describe 27 = .ok (.iload_n 3, 1) := by decide +kernel
theorem dX11_describe_28 : decode cX11_describe 28 = .ok (.iconst 4, 1) := by decide +kernel
theorem dX11_describe_29 : decode cX11_describe 29 = .ok (.invokevirtual 45, 3) := by decide +kernel
theorem dX11_describe_32 : decode cX11_describe 32 = .ok (.lastore, 1) := by decide +kernel
theorem dX11_describe_33 : decode cX11_describe 33 = .ok (.aload_n 0, 1) := by decide +kernel
theorem dX11_describe_34 : decode cX11_describe 34 = .ok (.getfield 13, 3) := by decide +kernel
theorem dX11_describe_37 : decode cX11_describe 37 = .ok (.iconst 3, 1) := by decide +kernel
theorem dX11_describe_38 : decode cX11_describe 38 = .ok (.aload_n 2, 1) := by decide +kernel
theorem dX11_describe_39 : decode cX11_describe 39 = .ok (.iload_n 3, 1) := by decide +kernel
theorem dX11_describe_40 : decode cX11_describe 40 = .ok (.iconst 5, 1) := by decide +kernel
theorem dX11_describe_41 : decode cX11_describe 41 = .ok (.invokevirtual 45, 3) := by decide +kernel
theorem dX11_describe_44 : decode cX11_describe 44 = .ok (.lastore, 1) := by decide +kernel
theorem dX11_describe_45 : decode cX11_describe 45 = .ok (.iconst 0, 1) := by decide +kernel
theorem dX11_describe_46 : decode cX11_describe 46 = .ok (.istore 4, 2) := by decide +kernel
theorem dX11_describe_48 : decode cX11_describe 48 = .ok (.iload 4, 2) := by decide +kernel
theorem dX11_describe_50 : decode cX11_describe 50 = .ok (.iconst 4, 1) := by decide +kernel
theorem dX11_describe_51 : decode cX11_describe 51 = .ok (.if_icmp .ge 28, 3) := by decide +kernel
theorem dX11_describe_54 : decode cX11_describe 54 = .ok (.aload_n 0, 1) := by decide +kernel
theorem dX11_describe_55 : decode cX11_describe 55 = .ok (.getfield 13, 3) := by decide +kernel
theorem dX11_describe_58 : decode cX11_describe 58 = .ok (.iconst 4, 1) := by decide +kernel
theorem dX11_describe_59 : decode cX11_describe 59 = .ok (.iload 4, 2) := by decide +kernel
theorem dX11_describe_61 : decode cX11_describe 61 = .ok (.iadd, 1) := by decide +kernel
theorem dX11_describe_62 : decode cX11_describe 62 = .ok (.aload_n 2, 1) := by decide +kernel
theorem dX11_describe_63 : decode cX11_describe 63 = .ok (.iload_n 3, 1) := by decide +kernel
theorem dX11_describe_64 : decode cX11_describe 64 = .ok (.bipush 8, 2) := by decide +kernel
theorem dX11_describe_66 : decode cX11_describe 66 = .ok (.iload 4, 2) := by decide +kernel
theorem dX11_describe_68 : decode cX11_describe 68 = .ok (.iadd, 1) := by decide +kernel
theorem dX11_describe_69 : decode cX11_describe 69 = .ok (.invokevirtual 45, 3) := by decide +kernel
theorem dX11_describe_72 : decode cX11_describe 72 = .ok (.lastore, 1) := by decide +kernel
theorem dX11_describe_73 : decode cX11_describe 73 = .ok (.iinc 4 1, 3) := by decide +kernel
theorem dX11_describe_76 : decode cX11_describe 76 = .ok (.goto (-28), 3) := by decide +kernel
theorem dX11_describe_79 : decode cX11_describe 79 = .ok (.return_, 1) := by decide +kernel
theorem dX11_isAsked_0 : decode cX11_isAsked 0 = .ok (.iconst 0, 1) := by decide +kernel
theorem dX11_isAsked_1 : decode cX11_isAsked 1 = .ok (.istore_n 2, 1) := by decide +kernel
theorem dX11_isAsked_2 : decode cX11_isAsked 2 = .ok (.iload_n 2, 1) := by decide +kernel
theorem dX11_isAsked_3 : decode cX11_isAsked 3 = .ok (.bipush 8, 2) := by decide +kernel
theorem dX11_isAsked_5 : decode cX11_isAsked 5 = .ok (.if_icmp .ge 32, 3) := by decide +kernel
theorem dX11_isAsked_8 : decode cX11_isAsked 8 = .ok (.aload_n 0, 1) := by decide +kernel
theorem dX11_isAsked_9 : decode cX11_isAsked 9 = .ok (.getfield 9, 3) := by decide +kernel
theorem dX11_isAsked_12 : decode cX11_isAsked 12 = .ok (.iload_n 1, 1) := by decide +kernel
theorem dX11_isAsked_13 : decode cX11_isAsked 13 = .ok (.bipush 8, 2) := by decide +kernel
theorem dX11_isAsked_15 : decode cX11_isAsked 15 = .ok (.imul, 1) := by decide +kernel
theorem dX11_isAsked_16 : decode cX11_isAsked 16 = .ok (.iload_n 2, 1) := by decide +kernel
theorem dX11_isAsked_17 : decode cX11_isAsked 17 = .ok (.iadd, 1) := by decide +kernel
theorem dX11_isAsked_18 : decode cX11_isAsked 18 = .ok (.laload, 1) := by decide +kernel
theorem dX11_isAsked_19 : decode cX11_isAsked 19 = .ok (.aload_n 0, 1) := by decide +kernel
theorem dX11_isAsked_20 : decode cX11_isAsked 20 = .ok (.getfield 13, 3) := by decide +kernel
theorem dX11_isAsked_23 : decode cX11_isAsked 23 = .ok (.iload_n 2, 1) := by decide +kernel
theorem dX11_isAsked_24 : decode cX11_isAsked 24 = .ok (.laload, 1) := by decide +kernel
theorem dX11_isAsked_25 : decode cX11_isAsked 25 = .ok (.lcmp, 1) := by decide +kernel
theorem dX11_isAsked_26 : decode cX11_isAsked 26 = .ok (.ifCond .eq 5, 3) := by decide +kernel
theorem dX11_isAsked_29 : decode cX11_isAsked 29 = .ok (.iconst 0, 1) := by decide +kernel
theorem dX11_isAsked_30 : decode cX11_isAsked 30 = .ok (.ireturn, 1) := by decide +kernel
theorem dX11_isAsked_31 : decode cX11_isAsked 31 = .ok (.iinc 2 1, 3) := by decide +kernel
theorem dX11_isAsked_34 : decode cX11_isAsked 34 = .ok (.goto (-32), 3) := by decide +kernel
theorem dX11_isAsked_37 : decode cX11_isAsked 37 = .ok (.iconst 1, 1) := by decide +kernel
theorem dX11_isAsked_38 : decode cX11_isAsked 38 = .ok (.ireturn, 1) := by decide +kernel
theorem dX13_isWaived_0 : decode cX13_isWaived 0 = .ok (.iconst 0, 1) := by decide +kernel
theorem dX13_isWaived_1 : decode cX13_isWaived 1 = .ok (.istore_n 2, 1) := by decide +kernel
theorem dX13_isWaived_2 : decode cX13_isWaived 2 = .ok (.iconst 0, 1) := by decide +kernel
theorem dX13_isWaived_3 : decode cX13_isWaived 3 = .ok (.istore_n 3, 1) := by decide +kernel
theorem dX13_isWaived_4 : decode cX13_isWaived 4 = .ok (.iload_n 3, 1) := by decide +kernel
theorem dX13_isWaived_5 : decode cX13_isWaived 5 = .ok (.aload_n 0, 1) := by decide +kernel
theorem dX13_isWaived_6 : decode cX13_isWaived 6 = .ok (.getfield 251, 3) := by decide +kernel
theorem dX13_isWaived_9 : decode cX13_isWaived 9 = .ok (.if_icmp .ge 164, 3) := by decide +kernel
theorem dX13_isWaived_12 : decode cX13_isWaived 12 = .ok (.iload_n 2, 1) := by decide +kernel
theorem dX13_isWaived_13 : decode cX13_isWaived 13 = .ok (.ifCond .ne 160, 3) := by decide +kernel
theorem dX13_isWaived_16 : decode cX13_isWaived 16 = .ok (.aload_n 0, 1) := by decide +kernel
theorem dX13_isWaived_17 : decode cX13_isWaived 17 = .ok (.getfield 79, 3) := by decide +kernel
theorem dX13_isWaived_20 : decode cX13_isWaived 20 = .ok (.bipush 8, 2) := by decide +kernel
theorem dX13_isWaived_22 : decode cX13_isWaived 22 = .ok (.iload_n 3, 1) := by decide +kernel
theorem dX13_isWaived_23 : decode cX13_isWaived 23 = .ok (.imul, 1) := by decide +kernel
theorem dX13_isWaived_24 : decode cX13_isWaived 24 = .ok (.laload, 1) := by decide +kernel
theorem dX13_isWaived_25 : decode cX13_isWaived 25 = .ok (.aload_n 0, 1) := by decide +kernel
theorem dX13_isWaived_26 : decode cX13_isWaived 26 = .ok (.getfield 254, 3) := by decide +kernel
theorem dX13_isWaived_29 : decode cX13_isWaived 29 = .ok (.i2l, 1) := by decide +kernel
theorem dX13_isWaived_30 : decode cX13_isWaived 30 = .ok (.lcmp, 1) := by decide +kernel
theorem dX13_isWaived_31 : decode cX13_isWaived 31 = .ok (.ifCond .ne 79, 3) := by decide +kernel
theorem dX13_isWaived_34 : decode cX13_isWaived 34 = .ok (.aload_n 0, 1) := by decide +kernel
theorem dX13_isWaived_35 : decode cX13_isWaived 35 = .ok (.getfield 79, 3) := by decide +kernel
theorem dX13_isWaived_38 : decode cX13_isWaived 38 = .ok (.bipush 8, 2) := by decide +kernel
theorem dX13_isWaived_40 : decode cX13_isWaived 40 = .ok (.iload_n 3, 1) := by decide +kernel
theorem dX13_isWaived_41 : decode cX13_isWaived 41 = .ok (.imul, 1) := by decide +kernel
theorem dX13_isWaived_42 : decode cX13_isWaived 42 = .ok (.iconst 1, 1) := by decide +kernel
theorem dX13_isWaived_43 : decode cX13_isWaived 43 = .ok (.iadd, 1) := by decide +kernel
theorem dX13_isWaived_44 : decode cX13_isWaived 44 = .ok (.laload, 1) := by decide +kernel
theorem dX13_isWaived_45 : decode cX13_isWaived 45 = .ok (.aload_n 0, 1) := by decide +kernel
theorem dX13_isWaived_46 : decode cX13_isWaived 46 = .ok (.getfield 72, 3) := by decide +kernel
theorem dX13_isWaived_49 : decode cX13_isWaived 49 = .ok (.iload_n 1, 1) := by decide +kernel
theorem dX13_isWaived_50 : decode cX13_isWaived 50 = .ok (.bipush 7, 2) := by decide +kernel
theorem dX13_isWaived_52 : decode cX13_isWaived 52 = .ok (.iadd, 1) := by decide +kernel
theorem dX13_isWaived_53 : decode cX13_isWaived 53 = .ok (.laload, 1) := by decide +kernel
theorem dX13_isWaived_54 : decode cX13_isWaived 54 = .ok (.lcmp, 1) := by decide +kernel
theorem dX13_isWaived_55 : decode cX13_isWaived 55 = .ok (.ifCond .ne 55, 3) := by decide +kernel
theorem dX13_isWaived_58 : decode cX13_isWaived 58 = .ok (.aload_n 0, 1) := by decide +kernel
theorem dX13_isWaived_59 : decode cX13_isWaived 59 = .ok (.getfield 79, 3) := by decide +kernel
theorem dX13_isWaived_62 : decode cX13_isWaived 62 = .ok (.bipush 8, 2) := by decide +kernel
theorem dX13_isWaived_64 : decode cX13_isWaived 64 = .ok (.iload_n 3, 1) := by decide +kernel
theorem dX13_isWaived_65 : decode cX13_isWaived 65 = .ok (.imul, 1) := by decide +kernel
theorem dX13_isWaived_66 : decode cX13_isWaived 66 = .ok (.bipush 6, 2) := by decide +kernel
theorem dX13_isWaived_68 : decode cX13_isWaived 68 = .ok (.iadd, 1) := by decide +kernel
theorem dX13_isWaived_69 : decode cX13_isWaived 69 = .ok (.laload, 1) := by decide +kernel
theorem dX13_isWaived_70 : decode cX13_isWaived 70 = .ok (.aload_n 0, 1) := by decide +kernel
theorem dX13_isWaived_71 : decode cX13_isWaived 71 = .ok (.getfield 72, 3) := by decide +kernel
theorem dX13_isWaived_74 : decode cX13_isWaived 74 = .ok (.iload_n 1, 1) := by decide +kernel
theorem dX13_isWaived_75 : decode cX13_isWaived 75 = .ok (.iconst 4, 1) := by decide +kernel
theorem dX13_isWaived_76 : decode cX13_isWaived 76 = .ok (.iadd, 1) := by decide +kernel
theorem dX13_isWaived_77 : decode cX13_isWaived 77 = .ok (.laload, 1) := by decide +kernel
theorem dX13_isWaived_78 : decode cX13_isWaived 78 = .ok (.lcmp, 1) := by decide +kernel
theorem dX13_isWaived_79 : decode cX13_isWaived 79 = .ok (.ifCond .ne 31, 3) := by decide +kernel
theorem dX13_isWaived_82 : decode cX13_isWaived 82 = .ok (.aload_n 0, 1) := by decide +kernel
theorem dX13_isWaived_83 : decode cX13_isWaived 83 = .ok (.getfield 79, 3) := by decide +kernel
theorem dX13_isWaived_86 : decode cX13_isWaived 86 = .ok (.bipush 8, 2) := by decide +kernel
theorem dX13_isWaived_88 : decode cX13_isWaived 88 = .ok (.iload_n 3, 1) := by decide +kernel
theorem dX13_isWaived_89 : decode cX13_isWaived 89 = .ok (.imul, 1) := by decide +kernel
theorem dX13_isWaived_90 : decode cX13_isWaived 90 = .ok (.bipush 7, 2) := by decide +kernel
theorem dX13_isWaived_92 : decode cX13_isWaived 92 = .ok (.iadd, 1) := by decide +kernel
theorem dX13_isWaived_93 : decode cX13_isWaived 93 = .ok (.laload, 1) := by decide +kernel
theorem dX13_isWaived_94 : decode cX13_isWaived 94 = .ok (.aload_n 0, 1) := by decide +kernel
theorem dX13_isWaived_95 : decode cX13_isWaived 95 = .ok (.getfield 72, 3) := by decide +kernel
theorem dX13_isWaived_98 : decode cX13_isWaived 98 = .ok (.iload_n 1, 1) := by decide +kernel
theorem dX13_isWaived_99 : decode cX13_isWaived 99 = .ok (.iconst 5, 1) := by decide +kernel
theorem dX13_isWaived_100 : decode cX13_isWaived 100 = .ok (.iadd, 1) := by decide +kernel
theorem dX13_isWaived_101 : decode cX13_isWaived 101 = .ok (.laload, 1) := by decide +kernel
theorem dX13_isWaived_102 : decode cX13_isWaived 102 = .ok (.lcmp, 1) := by decide +kernel
theorem dX13_isWaived_103 : decode cX13_isWaived 103 = .ok (.ifCond .ne 7, 3) := by decide +kernel
theorem dX13_isWaived_106 : decode cX13_isWaived 106 = .ok (.iconst 1, 1) := by decide +kernel
theorem dX13_isWaived_107 : decode cX13_isWaived 107 = .ok (.goto 4, 3) := by decide +kernel
theorem dX13_isWaived_110 : decode cX13_isWaived 110 = .ok (.iconst 0, 1) := by decide +kernel
theorem dX13_isWaived_111 : decode cX13_isWaived 111 = .ok (.istore_n 2, 1) := by decide +kernel
theorem dX13_isWaived_112 : decode cX13_isWaived 112 = .ok (.iconst 0, 1) := by decide +kernel
theorem dX13_isWaived_113 : decode cX13_isWaived 113 = .ok (.istore 4, 2) := by decide +kernel
theorem dX13_isWaived_115 : decode cX13_isWaived 115 = .ok (.iload 4, 2) := by decide +kernel
theorem dX13_isWaived_117 : decode cX13_isWaived 117 = .ok (.iconst 4, 1) := by decide +kernel
theorem dX13_isWaived_118 : decode cX13_isWaived 118 = .ok (.if_icmp .ge 49, 3) := by decide +kernel
theorem dX13_isWaived_121 : decode cX13_isWaived 121 = .ok (.iload_n 2, 1) := by decide +kernel
theorem dX13_isWaived_122 : decode cX13_isWaived 122 = .ok (.ifCond .eq 37, 3) := by decide +kernel
theorem dX13_isWaived_125 : decode cX13_isWaived 125 = .ok (.aload_n 0, 1) := by decide +kernel
theorem dX13_isWaived_126 : decode cX13_isWaived 126 = .ok (.getfield 79, 3) := by decide +kernel
theorem dX13_isWaived_129 : decode cX13_isWaived 129 = .ok (.bipush 8, 2) := by decide +kernel
theorem dX13_isWaived_131 : decode cX13_isWaived 131 = .ok (.iload_n 3, 1) := by decide +kernel
theorem dX13_isWaived_132 : decode cX13_isWaived 132 = .ok (.imul, 1) := by decide +kernel
theorem dX13_isWaived_133 : decode cX13_isWaived 133 = .ok (.iconst 2, 1) := by decide +kernel
theorem dX13_isWaived_134 : decode cX13_isWaived 134 = .ok (.iadd, 1) := by decide +kernel
theorem dX13_isWaived_135 : decode cX13_isWaived 135 = .ok (.iload 4, 2) := by decide +kernel
theorem dX13_isWaived_137 : decode cX13_isWaived 137 = .ok (.iadd, 1) := by decide +kernel
theorem dX13_isWaived_138 : decode cX13_isWaived 138 = .ok (.laload, 1) := by decide +kernel
theorem dX13_isWaived_139 : decode cX13_isWaived 139 = .ok (.aload_n 0, 1) := by decide +kernel
theorem dX13_isWaived_140 : decode cX13_isWaived 140 = .ok (.getfield 72, 3) := by decide +kernel
theorem dX13_isWaived_143 : decode cX13_isWaived 143 = .ok (.iload_n 1, 1) := by decide +kernel
theorem dX13_isWaived_144 : decode cX13_isWaived 144 = .ok (.bipush 8, 2) := by decide +kernel
theorem dX13_isWaived_146 : decode cX13_isWaived 146 = .ok (.iadd, 1) := by decide +kernel
theorem dX13_isWaived_147 : decode cX13_isWaived 147 = .ok (.iload 4, 2) := by decide +kernel
theorem dX13_isWaived_149 : decode cX13_isWaived 149 = .ok (.iadd, 1) := by decide +kernel
theorem dX13_isWaived_150 : decode cX13_isWaived 150 = .ok (.laload, 1) := by decide +kernel
theorem dX13_isWaived_151 : decode cX13_isWaived 151 = .ok (.lcmp, 1) := by decide +kernel
theorem dX13_isWaived_152 : decode cX13_isWaived 152 = .ok (.ifCond .ne 7, 3) := by decide +kernel
theorem dX13_isWaived_155 : decode cX13_isWaived 155 = .ok (.iconst 1, 1) := by decide +kernel
theorem dX13_isWaived_156 : decode cX13_isWaived 156 = .ok (.goto 4, 3) := by decide +kernel
theorem dX13_isWaived_159 : decode cX13_isWaived 159 = .ok (.iconst 0, 1) := by decide +kernel
theorem dX13_isWaived_160 : decode cX13_isWaived 160 = .ok (.istore_n 2, 1) := by decide +kernel
theorem dX13_isWaived_161 : decode cX13_isWaived 161 = .ok (.iinc 4 1, 3) := by decide +kernel
theorem dX13_isWaived_164 : decode cX13_isWaived 164 = .ok (.goto (-49), 3) := by decide +kernel
theorem dX13_isWaived_167 : decode cX13_isWaived 167 = .ok (.iinc 3 1, 3) := by decide +kernel
theorem dX13_isWaived_170 : decode cX13_isWaived 170 = .ok (.goto (-166), 3) := by decide +kernel
theorem dX13_isWaived_173 : decode cX13_isWaived 173 = .ok (.iload_n 2, 1) := by decide +kernel
theorem dX13_isWaived_174 : decode cX13_isWaived 174 = .ok (.ireturn, 1) := by decide +kernel

set_option maxRecDepth 20000 in
theorem ggX12_waive_X11_covers : GoodIn wsX12_waive wsX11_covers := goodIn_r _ [19, 20, 21, 22, 23, 18, 24, 25, 26, 27, 28, 12, 29, 30, 31, 32, 33, 34, 35, 36, 58, 59, 60, 61, 62, 63, 64, 65, 66, 67] (by decide +kernel) (by decide +kernel)
set_option maxRecDepth 20000 in
theorem gX12_waive_X11_covers : GoodIn wsX12_waive (wsV RX12 228 RX11 yX11_covers wsX11_covers) := goodIn_app (goodIn_of _ (by decide +kernel)) ggX12_waive_X11_covers
set_option maxRecDepth 20000 in
theorem ggX12_waive_X11_add : GoodIn wsX12_waive wsX11_add := goodIn_r _ [40, 20, 25, 36, 41, 42, 43, 44, 21, 22, 23, 18, 24, 26, 27, 28, 12, 29, 30, 31, 58, 59, 60, 61, 62, 63, 64, 65, 66, 67] (by decide +kernel) (by decide +kernel)
set_option maxRecDepth 20000 in
theorem gX12_waive_X11_add : GoodIn wsX12_waive (wsV RX12 235 RX11 yX11_add wsX11_add) := goodIn_app (goodIn_of _ (by decide +kernel)) ggX12_waive_X11_add
set_option maxRecDepth 20000 in
theorem ggX13_waive_X13_isWaived : GoodIn wsX13_waive wsX13_isWaived := goodIn_r _ [12, 5, 6, 3, 7, 13, 14, 15, 16, 17, 18, 19, 20, 21, 22, 23, 24, 25, 26, 27, 28, 29, 30, 31, 32, 33, 34, 35, 36, 37, 38, 39, 40, 41, 42, 43, 44, 45, 46, 47, 48, 49, 50, 51, 52, 53, 54, 55, 56, 57, 58, 59, 60, 61, 62, 63, 64, 65, 66, 67, 68, 69, 70, 71, 72, 73, 74, 75, 76, 77, 78, 79, 80, 81, 82, 83] (by decide +kernel) (by decide +kernel)
set_option maxRecDepth 20000 in
theorem gX13_waive_X13_isWaived : GoodIn wsX13_waive (wsV RX13 327 RX13 yX13_isWaived wsX13_isWaived) := goodIn_app (goodIn_of _ (by decide +kernel)) ggX13_waive_X13_isWaived
section SVY
variable {G : sv_G} {M : sv_M} {P : sv_P} {pc : Nat} {L : List (Nat × Value)} {S : List Value} {h : sv_h} {z ce sl : Nat}
theorem v_nameh (k : ∀ hx : sv_h, hx = h → V G M P pc L S hx z ce sl) : V G M P pc L S h z ce sl := k h rfl
/-- System.arraycopy, of longs -/
theorem v_copyJ {index a0 a n0 n1 : Nat} {f g : Nat → Int64} {sp dp n : Int32} (w1 : Cond.methodLink M.2.2.1.cls index arraycopyName ∈ M.2.2.2.1) (w2 : Cond.native arraycopyName ∈ M.2.2.2.1) (w3 : Cond.static arraycopyName ∈ M.2.2.2.1) (w4 : Cond.initialized "java/lang/System" ∈ M.2.2.2.1) (hdg : decode M.1 pc = .ok (.invokestatic index, 3))
    (hfr : 1 ≤ M.2.2.2.2.2.1.frames) (hlo : (S.map fun v => v.category).sum + (nativeFrameWords "java/lang/System" "arraycopy" 5 + 11) ≤ M.2.2.2.2.2.1.locals) (h0 : h a0 = some (.inl (G.2.2.1 1, n0, .inr (.inl f)))) (h1 : h a = some (.inl (G.2.2.1 1, n1, .inr (.inl g))))
    (p1 : ¬ sp < 0) (p2 : ¬ dp < 0) (p3 : ¬ n < 0) (p4 : sp.toNatClampNeg + n.toNatClampNeg ≤ n0) (p5 : dp.toNatClampNeg + n.toNatClampNeg ≤ n1)
    (kk : V G M P (pc + 3) L S (va_up h a (some (.inl (G.2.2.1 1, n1, .inr (.inl (va_cpy f g sp.toNatClampNeg dp.toNatClampNeg n.toNatClampNeg)))))) z ce sl) : V G M P pc L (.int n :: .int dp :: .ref a :: .int sp :: .ref a0 :: S) h z ce sl := by
  intro p e s m args below meth c H locs ls C K Z hS hH hl
  have nn : ∀ w : Int32, ¬ w < 0 → w.toInt = (w.toNatClampNeg : Int) := by
    intro w hw
    have hw0 : (0 : Int) ≤ w.toInt := by
      have := Int32.not_lt.mp hw
      simpa using Int32.le_iff_toInt_le.mp this
    show w.toInt = ((w.toInt.toNat : Nat) : Int)
    omega
  intro T hT X
  have hc0 : H[a0]? = some (vp_cell (G.2.2.1 1) (n0, .inr (.inl f))) := (hH.2.2 a0 _ h0).2
  have hc1 : H[a]? = some (vp_cell (G.2.2.1 1) (n1, .inr (.inl g))) := (hH.2.2 a _ h1).2
  obtain ⟨-, k0, hk0, cm0, hkk0⟩ := (K.1.2 1 _ rfl).1 n0 (fun j => .long (f j))
  obtain ⟨-, k1, hk1, cm1, hkk1⟩ := (K.1.2 1 _ rfl).1 n1 (fun j => .long (g j))
  obtain ⟨vm', X', step⟩ := X.arraycopy C.1 C.2.2.2.1 (C.2.2.2.2.1 _ w1) (C.2.2.2.2.1 _ w2) (C.2.2.2.2.1 _ w3) (C.2.2.2.2.1 _ w4) (src := a0) (dst := a) (cs := vp_cell (G.2.2.1 1) (n0, .inr (.inl f))) (cd := vp_cell (G.2.2.1 1) (n1, .inr (.inl g))) (srcPos := sp) (destPos := dp) (n := n) (by rw [hT]; exact hc0) (by rw [hT]; exact hc1)
    (fun _ q => by cases q) (fun _ q => by cases q) (fun q => by cases q) (fun q => by cases q) hk0 hk1 hkk0 hkk1 (by simp [refKind]) p1 p2 p3
    (by rw [nn sp p1, nn n p3]; show ¬ _ > ((arrV (G.2.2.1 1) n0 (fun j => .long (f j))).slots.size : Int); rw [arrV_size]; omega)
    (by rw [nn dp p2, nn n p3]; show ¬ _ > ((arrV (G.2.2.1 1) n1 (fun j => .long (g j))).slots.size : Int); rw [arrV_size]; omega)
    (fun vm₁ _ i hi => by
      have e9 : (vp_cell (G.2.2.1 1) (n0, .inr (.inl f))).slots.getD (sp.toNatClampNeg + i) .null = .long (f (sp.toNatClampNeg + i)) := by
        show (arrV (G.2.2.1 1) n0 (fun j => .long (f j))).slots.getD _ _ = _
        rw [Array.getD_eq_getD_getElem?, arrV_read _ _ (by omega)]
        rfl
      refine ⟨?_, ?_⟩
      · rw [e9]; rfl
      · rw [e9]; exact trivial)
    (g := F0 m pc ls (.int n :: .int dp :: .ref a :: .int sp :: .ref a0 :: S)) rfl (by rw [C.2.2.1]; exact hl.1) (rest := S) rfl (by rw [C.2.1]; exact hdg) hfr (by show 2 * 0 + _ + _ ≤ _; omega)
  have e1 : copied (vp_cell (G.2.2.1 1) (n0, .inr (.inl f))) (vp_cell (G.2.2.1 1) (n1, .inr (.inl g))) sp dp n = vp_cell (G.2.2.1 1) (n1, .inr (.inl (va_cpy f g sp.toNatClampNeg dp.toNatClampNeg n.toNatClampNeg))) := va_copied (fun w => .long w) (G.2.2.1 1) (G.2.2.1 1) f g p4
  rw [e1] at X' step
  have hlt : a < H.size := (Array.getElem?_eq_some_iff.mp hc1).1
  have hheap : ((T.setVm vm').setCell a (vp_cell (G.2.2.1 1) (n1, .inr (.inl (va_cpy f g sp.toNatClampNeg dp.toNatClampNeg n.toNatClampNeg))))).heap = H.setIfInBounds a (vp_cell (G.2.2.1 1) (n1, .inr (.inl (va_cpy f g sp.toNatClampNeg dp.toNatClampNeg n.toNatClampNeg)))) := by rw [← hT]; rfl
  have oq : ∀ q : Nat, q ≠ a → (H.setIfInBounds a (vp_cell (G.2.2.1 1) (n1, .inr (.inl (va_cpy f g sp.toNatClampNeg dp.toNatClampNeg n.toNatClampNeg)))))[q]? = H[q]? := fun q hq => by simp [Array.getElem?_setIfInBounds, Ne.symm hq]
  have zq : (H.setIfInBounds a (vp_cell (G.2.2.1 1) (n1, .inr (.inl (va_cpy f g sp.toNatClampNeg dp.toNatClampNeg n.toNatClampNeg))))).size = H.size := by simp
  obtain ⟨t, a1, b1⟩ := kk p e s m args below meth c _ _ ls C K Z ⟨by rw [zq]; exact hS.1, fun q g1 g2 => by
      rw [oq q (fun e2 => g2 (by rw [e2]; exact (hH.2.2 a _ h1).1))]
      exact hS.2.1 q g1 g2, fun q hq => by
      rcases List.mem_append.mp hq with r | r
      · exact hS.2.2 q r
      · obtain ⟨y, -, hy⟩ := List.mem_map.mp r
        rw [← hy]
        exact (hH.2.2 a _ h1).1⟩ (hH.set h1 (show (H.setIfInBounds a _)[a]? = some _ by simp [Array.getElem?_setIfInBounds, hlt]) zq oq) hl _ hheap X'
  exact ⟨t, step t a1, b1⟩
end SVY
