theorem iwX13_next_X13 : ∀ w ∈ wsX130, w ∈ wsX13_next := by decide +kernel
theorem iwX13_is_X13 : ∀ w ∈ wsX130, w ∈ wsX13_is := by decide +kernel
theorem iwX13_name_X13 : ∀ w ∈ wsX130, w ∈ wsX13_name := by decide +kernel
theorem iwX13_take__X13 : ∀ w ∈ wsX130, w ∈ wsX13_take_ := by decide +kernel
theorem iwX13_number_X13 : ∀ w ∈ wsX130, w ∈ wsX13_number := by decide +kernel
theorem iwX13_isNew_X13 : ∀ w ∈ wsX130, w ∈ wsX13_isNew := by decide +kernel
theorem iwX13_readRule_X13 : ∀ w ∈ wsX130, w ∈ wsX13_readRule := by decide +kernel
theorem iwX13_read_X13 : ∀ w ∈ wsX130, w ∈ wsX13_read := by decide +kernel
theorem dX13_next_0 : decode cX13_next 0 = .ok (.aload_n 0, 1) := by decide +kernel
theorem dX13_next_1 : decode cX13_next 1 = .ok (.dup, 1) := by decide +kernel
theorem dX13_next_2 : decode cX13_next 2 = .ok (.getfield 383, 3) := by decide +kernel
theorem dX13_next_5 : decode cX13_next 5 = .ok (.iconst 1, 1) := by decide +kernel
theorem dX13_next_6 : decode cX13_next 6 = .ok (.iadd, 1) := by decide +kernel
theorem dX13_next_7 : decode cX13_next 7 = .ok (.putfield 383, 3) := by decide +kernel
theorem dX13_next_10 : decode cX13_next 10 = .ok (.aload_n 0, 1) := by decide +kernel
theorem dX13_next_11 : decode cX13_next 11 = .ok (.aload_n 0, 1) := by decide +kernel
theorem dX13_next_12 : decode cX13_next 12 = .ok (.getfield 386, 3) := by decide +kernel
theorem dX13_next_15 : decode cX13_next 15 = .ok (.putfield 389, 3) := by decide +kernel
theorem dX13_next_18 : decode cX13_next 18 = .ok (.aload_n 0, 1) := by decide +kernel
theorem dX13_next_19 : decode cX13_next 19 = .ok (.getfield 389, 3) := by decide +kernel
theorem dX13_next_22 : decode cX13_next 22 = .ok (.aload_n 0, 1) := by decide +kernel
theorem dX13_next_23 : decode cX13_next 23 = .ok (.getfield 377, 3) := by decide +kernel
theorem dX13_next_26 : decode cX13_next 26 = .ok (.if_icmp .ge 44, 3) := by decide +kernel
theorem dX13_next_29 : decode cX13_next 29 = .ok (.aload_n 0, 1) := by decide +kernel
theorem dX13_next_30 : decode cX13_next 30 = .ok (.getfield 44, 3) := by decide +kernel
theorem dX13_next_33 : decode cX13_next 33 = .ok (.aload_n 0, 1) := by decide +kernel
theorem dX13_next_34 : decode cX13_next 34 = .ok (.getfield 389, 3) := by decide +kernel
theorem dX13_next_37 : decode cX13_next 37 = .ok (.iaload, 1) := by decide +kernel
theorem dX13_next_38 : decode cX13_next 38 = .ok (.bipush 32, 2) := by decide +kernel
theorem dX13_next_40 : decode cX13_next 40 = .ok (.if_icmp .eq 17, 3) := by decide +kernel
theorem dX13_next_43 : decode cX13_next 43 = .ok (.aload_n 0, 1) := by decide +kernel
theorem dX13_next_44 : decode cX13_next 44 = .ok (.getfield 44, 3) := by decide +kernel
theorem dX13_next_47 : decode cX13_next 47 = .ok (.aload_n 0, 1) := by decide +kernel
theorem dX13_next_48 : decode cX13_next 48 = .ok (.getfield 389, 3) := by decide +kernel
theorem dX13_next_51 : decode cX13_next 51 = .ok (.iaload, 1) := by decide +kernel
theorem dX13_next_52 : decode cX13_next 52 = .ok (.bipush 10, 2) := by decide +kernel
theorem dX13_next_54 : decode cX13_next 54 = .ok (.if_icmp .ne 16, 3) := by decide +kernel
theorem dX13_next_57 : decode cX13_next 57 = .ok (.aload_n 0, 1) := by decide +kernel
theorem dX13_next_58 : decode cX13_next 58 = .ok (.dup, 1) := by decide +kernel
theorem dX13_next_59 : decode cX13_next 59 = .ok (.getfield 389, 3) := by decide +kernel
theorem dX13_next_62 : decode cX13_next 62 = .ok (.iconst 1, 1) := by decide +kernel
theorem dX13_next_63 : decode cX13_next 63 = .ok (.iadd, 1) := by decide +kernel
theorem dX13_next_64 : decode cX13_next 64 = .ok (.putfield 389, 3) := by decide +kernel
theorem dX13_next_67 : decode cX13_next 67 = .ok (.goto (-49), 3) := by decide +kernel
theorem dX13_next_70 : decode cX13_next 70 = .ok (.aload_n 0, 1) := by decide +kernel
theorem dX13_next_71 : decode cX13_next 71 = .ok (.aload_n 0, 1) := by decide +kernel
theorem dX13_next_72 : decode cX13_next 72 = .ok (.getfield 389, 3) := by decide +kernel
theorem dX13_next_75 : decode cX13_next 75 = .ok (.putfield 386, 3) := by decide +kernel
theorem dX13_next_78 : decode cX13_next 78 = .ok (.aload_n 0, 1) := by decide +kernel
theorem dX13_next_79 : decode cX13_next 79 = .ok (.getfield 389, 3) := by decide +kernel
theorem dX13_next_82 : decode cX13_next 82 = .ok (.aload_n 0, 1) := by decide +kernel
theorem dX13_next_83 : decode cX13_next 83 = .ok (.getfield 377, 3) := by decide +kernel
theorem dX13_next_86 : decode cX13_next 86 = .ok (.if_icmp .ne 4, 3) := by decide +kernel
theorem dX13_next_89 : decode cX13_next 89 = .ok (.return_, 1) := by decide +kernel
theorem dX13_next_90 : decode cX13_next 90 = .ok (.aload_n 0, 1) := by decide +kernel
theorem dX13_next_91 : decode cX13_next 91 = .ok (.getfield 44, 3) := by decide +kernel
theorem dX13_next_94 : decode cX13_next 94 = .ok (.aload_n 0, 1) := by decide +kernel
theorem dX13_next_95 : decode cX13_next 95 = .ok (.getfield 389, 3) := by decide +kernel
theorem dX13_next_98 : decode cX13_next 98 = .ok (.iaload, 1) := by decide +kernel
theorem dX13_next_99 : decode cX13_next 99 = .ok (.invokestatic 392, 3) := by decide +kernel
theorem dX13_next_102 : decode cX13_next 102 = .ok (.istore_n 1, 1) := by decide +kernel
theorem dX13_next_103 : decode cX13_next 103 = .ok (.aload_n 0, 1) := by decide +kernel
theorem dX13_next_104 : decode cX13_next 104 = .ok (.getfield 44, 3) := by decide +kernel
theorem dX13_next_107 : decode cX13_next 107 = .ok (.aload_n 0, 1) := by decide +kernel
theorem dX13_next_108 : decode cX13_next 108 = .ok (.getfield 389, 3) := by decide +kernel
theorem dX13_next_111 : decode cX13_next 111 = .ok (.iaload, 1) := by decide +kernel
theorem dX13_next_112 : decode cX13_next 112 = .ok (.invokestatic 395, 3) := by decide +kernel
theorem dX13_next_115 : decode cX13_next 115 = .ok (.istore_n 2, 1) := by decide +kernel
theorem dX13_next_116 : decode cX13_next 116 = .ok (.aload_n 0, 1) := by decide +kernel
theorem dX13_next_117 : decode cX13_next 117 = .ok (.dup, 1) := by decide +kernel
theorem dX13_next_118 : decode cX13_next 118 = .ok (.getfield 386, 3) := by decide +kernel
theorem dX13_next_121 : decode cX13_next 121 = .ok (.iconst 1, 1) := by decide +kernel
theorem dX13_next_122 : decode cX13_next 122 = .ok (.iadd, 1) := by decide +kernel
theorem dX13_next_123 : decode cX13_next 123 = .ok (.putfield 386, 3) := by decide +kernel
theorem dX13_next_126 : decode cX13_next 126 = .ok (.aload_n 0, 1) := by decide +kernel
theorem dX13_next_127 : decode cX13_next 127 = .ok (.getfield 386, 3) := by decide +kernel
theorem dX13_next_130 : decode cX13_next 130 = .ok (.aload_n 0, 1) := by decide +kernel
theorem dX13_next_131 : decode cX13_next 131 = .ok (.getfield 377, 3) := by decide +kernel
theorem dX13_next_134 : decode cX13_next 134 = .ok (.if_icmp .ge 54, 3) := by decide +kernel
theorem dX13_next_137 : decode cX13_next 137 = .ok (.iload_n 1, 1) := by decide +kernel
theorem dX13_next_138 : decode cX13_next 138 = .ok (.ifCond .eq 18, 3) := by decide +kernel
theorem dX13_next_141 : decode cX13_next 141 = .ok (.aload_n 0, 1) := by decide +kernel
theorem dX13_next_142 : decode cX13_next 142 = .ok (.getfield 44, 3) := by decide +kernel
theorem dX13_next_145 : decode cX13_next 145 = .ok (.aload_n 0, 1) := by decide +kernel
theorem dX13_next_146 : decode cX13_next 146 = .ok (.getfield 386, 3) := by decide +kernel
theorem dX13_next_149 : decode cX13_next 149 = .ok (.iaload, 1) := by decide +kernel
theorem dX13_next_150 : decode cX13_next 150 = .ok (.invokestatic 392, 3) := by decide +kernel
theorem dX13_next_153 : decode cX13_next 153 = .ok (.ifCond .ne 22, 3) := by decide +kernel
theorem dX13_next_156 : decode cX13_next 156 = .ok (.iload_n 2, 1) := by decide +kernel
theorem dX13_next_157 : decode cX13_next 157 = .ok (.ifCond .eq 31, 3) := by decide +kernel
theorem dX13_next_160 : decode cX13_next 160 = .ok (.aload_n 0, 1) := by decide +kernel
theorem dX13_next_161 : decode cX13_next 161 = .ok (.getfield 44, 3) := by decide +kernel
theorem dX13_next_164 : decode cX13_next 164 = .ok (.aload_n 0, 1) := by decide +kernel
theorem dX13_next_165 : decode cX13_next 165 = .ok (.getfield 386, 3) := by decide +kernel
theorem dX13_next_168 : decode cX13_next 168 = .ok (.iaload, 1) := by decide +kernel
theorem dX13_next_169 : decode cX13_next 169 = .ok (.invokestatic 395, 3) := by decide +kernel
theorem dX13_next_172 : decode cX13_next 172 = .ok (.ifCond .eq 16, 3) := by decide +kernel
theorem dX13_next_175 : decode cX13_next 175 = .ok (.aload_n 0, 1) := by decide +kernel
theorem dX13_next_176 : decode cX13_next 176 = .ok (.dup, 1) := by decide +kernel
theorem dX13_next_177 : decode cX13_next 177 = .ok (.getfield 386, 3) := by decide +kernel
theorem dX13_next_180 : decode cX13_next 180 = .ok (.iconst 1, 1) := by decide +kernel
theorem dX13_next_181 : decode cX13_next 181 = .ok (.iadd, 1) := by decide +kernel
theorem dX13_next_182 : decode cX13_next 182 = .ok (.putfield 386, 3) := by decide +kernel
theorem dX13_next_185 : decode cX13_next 185 = .ok (.goto (-59), 3) := by decide +kernel
theorem dX13_next_188 : decode cX13_next 188 = .ok (.return_, 1) := by decide +kernel
theorem dX13_is_0 : decode cX13_is 0 = .ok (.aload_n 0, 1) := by decide +kernel
theorem dX13_is_1 : decode cX13_is 1 = .ok (.getfield 386, 3) := by decide +kernel
theorem dX13_is_4 : decode cX13_is 4 = .ok (.aload_n 0, 1) := by decide +kernel
theorem dX13_is_5 : decode cX13_is 5 = .ok (.getfield 389, 3) := by decide +kernel
theorem dX13_is_8 : decode cX13_is 8 = .ok (.iconst 1, 1) := by decide +kernel
theorem dX13_is_9 : decode cX13_is 9 = .ok (.iadd, 1) := by decide +kernel
theorem dX13_is_10 : decode cX13_is 10 = .ok (.if_icmp .ne 20, 3) := by decide +kernel
theorem dX13_is_13 : decode cX13_is 13 = .ok (.aload_n 0, 1) := by decide +kernel
theorem dX13_is_14 : decode cX13_is 14 = .ok (.getfield 44, 3) := by decide +kernel
theorem dX13_is_17 : decode cX13_is 17 = .ok (.aload_n 0, 1) := by decide +kernel
theorem dX13_is_18 : decode cX13_is 18 = .ok (.getfield 389, 3) := by decide +kernel
theorem dX13_is_21 : decode cX13_is 21 = .ok (.iaload, 1) := by decide +kernel
theorem dX13_is_22 : decode cX13_is 22 = .ok (.iload_n 1, 1) := by decide +kernel
theorem dX13_is_23 : decode cX13_is 23 = .ok (.if_icmp .ne 7, 3) := by decide +kernel
theorem dX13_is_26 : decode cX13_is 26 = .ok (.iconst 1, 1) := by decide +kernel
theorem dX13_is_27 : decode cX13_is 27 = .ok (.goto 4, 3) := by decide +kernel
theorem dX13_is_30 : decode cX13_is 30 = .ok (.iconst 0, 1) := by decide +kernel
theorem dX13_is_31 : decode cX13_is 31 = .ok (.ireturn, 1) := by decide +kernel
theorem dX13_name_0 : decode cX13_name 0 = .ok (.aload_n 0, 1) := by decide +kernel
theorem dX13_name_1 : decode cX13_name 1 = .ok (.getfield 389, 3) := by decide +kernel
theorem dX13_name_4 : decode cX13_name 4 = .ok (.aload_n 0, 1) := by decide +kernel
theorem dX13_name_5 : decode cX13_name 5 = .ok (.getfield 386, 3) := by decide +kernel
theorem dX13_name_8 : decode cX13_name 8 = .ok (.if_icmp .eq 32, 3) := by decide +kernel
theorem dX13_name_11 : decode cX13_name 11 = .ok (.aload_n 0, 1) := by decide +kernel
theorem dX13_name_12 : decode cX13_name 12 = .ok (.getfield 44, 3) := by decide +kernel
theorem dX13_name_15 : decode cX13_name 15 = .ok (.aload_n 0, 1) := by decide +kernel
theorem dX13_name_16 : decode cX13_name 16 = .ok (.getfield 389, 3) := by decide +kernel
theorem dX13_name_19 : decode cX13_name 19 = .ok (.iaload, 1) := by decide +kernel
theorem dX13_name_20 : decode cX13_name 20 = .ok (.invokestatic 392, 3) := by decide +kernel
theorem dX13_name_23 : decode cX13_name 23 = .ok (.ifCond .eq 17, 3) := by decide +kernel
theorem dX13_name_26 : decode cX13_name 26 = .ok (.aload_n 0, 1) := by decide +kernel
theorem dX13_name_27 : decode cX13_name 27 = .ok (.getfield 386, 3) := by decide +kernel
theorem dX13_name_30 : decode cX13_name 30 = .ok (.aload_n 0, 1) := by decide +kernel
theorem dX13_name_31 : decode cX13_name 31 = .ok (.getfield 389, 3) := by decide +kernel
theorem dX13_name_34 : decode cX13_name 34 = .ok (.isub, 1) := by decide +kernel
theorem dX13_name_35 : decode cX13_name 35 = .ok (.bipush 8, 2) := by decide +kernel
theorem dX13_name_37 : decode cX13_name 37 = .ok (.if_icmp .le 5, 3) := by decide +kernel
theorem dX13_name_40 : decode cX13_name 40 = .ok (.lconst 0, 1) := by decide +kernel
theorem dX13_name_41 : decode cX13_name 41 = .ok (.lreturn, 1) := by decide +kernel
theorem dX13_name_42 : decode cX13_name 42 = .ok (.lconst 0, 1) := by decide +kernel
theorem dX13_name_43 : decode cX13_name 43 = .ok (.lstore_n 1, 1) := by decide +kernel
theorem dX13_name_44 : decode cX13_name 44 = .ok (.aload_n 0, 1) := by decide +kernel
theorem dX13_name_45 : decode cX13_name 45 = .ok (.getfield 389, 3) := by decide +kernel
theorem dX13_name_48 : decode cX13_name 48 = .ok (.istore_n 3, 1) := by decide +kernel
theorem dX13_name_49 : decode cX13_name 49 = .ok (.iload_n 3, 1) := by decide +kernel
theorem dX13_name_50 : decode cX13_name 50 = .ok (.aload_n 0, 1) := by decide +kernel
theorem dX13_name_51 : decode cX13_name 51 = .ok (.getfield 386, 3) := by decide +kernel
theorem dX13_name_54 : decode cX13_name 54 = .ok (.if_icmp .ge 27, 3) := by decide +kernel
theorem dX13_name_57 : decode cX13_name 57 = .ok (.ldc2_w 398, 3) := by decide +kernel
theorem dX13_name_60 : decode cX13_name 60 = .ok (.lload_n 1, 1) := by decide +kernel
theorem dX13_name_61 : decode cX13_name 61 = .ok (.lmul, 1) := by decide +kernel
theorem dX13_name_62 : decode cX13_name 62 = .ok (.aload_n 0, 1) := by decide +kernel
theorem dX13_name_63 : decode cX13_name 63 = .ok (.getfield 44, 3) := by decide +kernel
theorem dX13_name_66 : decode cX13_name 66 = .ok (.iload_n 3, 1) := by decide +kernel
theorem dX13_name_67 : decode cX13_name 67 = .ok (.iaload, 1) := by decide +kernel
theorem dX13_name_68 : decode cX13_name 68 = .ok (.i2l, 1) := by decide +kernel
theorem dX13_name_69 : decode cX13_name 69 = .ok (.ladd, 1) := by decide +kernel
theorem dX13_name_70 : decode cX13_name 70 = .ok (.ldc2_w 400, 3) := by decide +kernel
theorem dX13_name_73 : decode cX13_name 73 = .ok (.lsub, 1) := by decide +kernel
theorem dX13_name_74 : decode cX13_name 74 = .ok (.lstore_n 1, 1) := by decide +kernel
theorem dX13_name_75 : decode cX13_name 75 = .ok (.iinc 3 1, 3) := by decide +kernel
theorem dX13_name_78 : decode cX13_name 78 = .ok (.goto (-29), 3) := by decide +kernel
theorem dX13_name_81 : decode cX13_name 81 = .ok (.lload_n 1, 1) := by decide +kernel
theorem dX13_name_82 : decode cX13_name 82 = .ok (.lreturn, 1) := by decide +kernel
set_option maxRecDepth 20000 in
theorem ggX13_take__X13_next : GoodIn wsX13_take_ wsX13_next := goodIn_r _ [6, 7, 8, 9, 10, 11, 12, 13, 5, 14, 15, 16, 17, 18, 19, 20, 21, 22, 23, 24, 25, 26, 27, 28, 29, 30, 31, 32, 33, 34, 35, 36, 37, 38, 39, 40, 41, 42, 43, 44, 45, 46, 47, 48, 49, 50, 51, 52, 53, 54, 55, 56, 57, 58, 59, 60, 61, 62, 63, 64, 65, 66, 67, 68, 69, 70, 71, 72, 73, 74, 75, 76, 77, 78, 79, 80, 81, 82, 83, 84, 85, 86, 87, 88] (by decide +kernel) (by decide +kernel)
set_option maxRecDepth 20000 in
theorem gX13_take__X13_next : GoodIn wsX13_take_ (wsV RX13 405 RX13 yX13_next wsX13_next) := goodIn_app (goodIn_of _ (by decide +kernel)) ggX13_take__X13_next
theorem dX13_take__0 : decode cX13_take_ 0 = .ok (.aload_n 0, 1) := by decide +kernel
theorem dX13_take__1 : decode cX13_take_ 1 = .ok (.aload_n 0, 1) := by decide +kernel
theorem dX13_take__2 : decode cX13_take_ 2 = .ok (.getfield 402, 3) := by decide +kernel
theorem dX13_take__5 : decode cX13_take_ 5 = .ok (.ifCond .eq 11, 3) := by decide +kernel
theorem dX13_take__8 : decode cX13_take_ 8 = .ok (.iload_n 1, 1) := by decide +kernel
theorem dX13_take__9 : decode cX13_take_ 9 = .ok (.ifCond .eq 7, 3) := by decide +kernel
theorem dX13_take__12 : decode cX13_take_ 12 = .ok (.iconst 1, 1) := by decide +kernel
theorem dX13_take__13 : decode cX13_take_ 13 = .ok (.goto 4, 3) := by decide +kernel
theorem dX13_take__16 : decode cX13_take_ 16 = .ok (.iconst 0, 1) := by decide +kernel
theorem dX13_take__17 : decode cX13_take_ 17 = .ok (.putfield 402, 3) := by decide +kernel
theorem dX13_take__20 : decode cX13_take_ 20 = .ok (.aload_n 0, 1) := by decide +kernel
theorem dX13_take__21 : decode cX13_take_ 21 = .ok (.getfield 402, 3) := by decide +kernel
theorem dX13_take__24 : decode cX13_take_ 24 = .ok (.ifCond .eq 7, 3) := by decide +kernel
theorem dX13_take__27 : decode cX13_take_ 27 = .ok (.aload_n 0, 1) := by decide +kernel
theorem dX13_take__28 : decode cX13_take_ 28 = .ok (.invokevirtual 405, 3) := by decide +kernel
theorem dX13_take__31 : decode cX13_take_ 31 = .ok (.return_, 1) := by decide +kernel
set_option maxRecDepth 20000 in
theorem ggX13_number_X13_take_ : GoodIn wsX13_number wsX13_take_ := goodIn_r _ [13, 14, 15, 16, 17, 8, 18, 19, 2, 1, 20, 3, 21, 22, 23, 6, 7, 9, 24, 25, 26, 27, 28, 29, 30, 31, 32, 33, 34, 35, 36, 37, 38, 39, 40, 41, 42, 43, 44, 45, 46, 47, 48, 49, 50, 51, 52, 53, 54, 55, 56, 57, 58, 59, 60, 61, 62, 63, 64, 65, 66, 67, 68, 69, 70, 71, 72, 73, 74, 75, 76, 77, 78, 79, 80, 81, 82, 83, 84, 85, 86, 87, 88, 89, 90, 91, 92, 93, 94] (by decide +kernel) (by decide +kernel)
set_option maxRecDepth 20000 in
theorem gX13_number_X13_take_ : GoodIn wsX13_number (wsV RX13 412 RX13 yX13_take_ wsX13_take_) := goodIn_app (goodIn_of _ (by decide +kernel)) ggX13_number_X13_take_
theorem dX13_number_0 : decode cX13_number 0 = .ok (.aload_n 0, 1) := by decide +kernel
theorem dX13_number_1 : decode cX13_number 1 = .ok (.getfield 389, 3) := by decide +kernel
theorem dX13_number_4 : decode cX13_number 4 = .ok (.aload_n 0, 1) := by decide +kernel
theorem dX13_number_5 : decode cX13_number 5 = .ok (.getfield 386, 3) := by decide +kernel
theorem dX13_number_8 : decode cX13_number 8 = .ok (.if_icmp .ge 36, 3) := by decide +kernel
theorem dX13_number_11 : decode cX13_number 11 = .ok (.aload_n 0, 1) := by decide +kernel
theorem dX13_number_12 : decode cX13_number 12 = .ok (.getfield 44, 3) := by decide +kernel
theorem dX13_number_15 : decode cX13_number 15 = .ok (.aload_n 0, 1) := by decide +kernel
theorem dX13_number_16 : decode cX13_number 16 = .ok (.getfield 389, 3) := by decide +kernel
theorem dX13_number_19 : decode cX13_number 19 = .ok (.iaload, 1) := by decide +kernel
theorem dX13_number_20 : decode cX13_number 20 = .ok (.invokestatic 395, 3) := by decide +kernel
theorem dX13_number_23 : decode cX13_number 23 = .ok (.ifCond .eq 21, 3) := by decide +kernel
theorem dX13_number_26 : decode cX13_number 26 = .ok (.aload_n 0, 1) := by decide +kernel
theorem dX13_number_27 : decode cX13_number 27 = .ok (.getfield 386, 3) := by decide +kernel
theorem dX13_number_30 : decode cX13_number 30 = .ok (.aload_n 0, 1) := by decide +kernel
theorem dX13_number_31 : decode cX13_number 31 = .ok (.getfield 389, 3) := by decide +kernel
theorem dX13_number_34 : decode cX13_number 34 = .ok (.isub, 1) := by decide +kernel
theorem dX13_number_35 : decode cX13_number 35 = .ok (.bipush 9, 2) := by decide +kernel
theorem dX13_number_37 : decode cX13_number 37 = .ok (.if_icmp .gt 7, 3) := by decide +kernel
theorem dX13_number_40 : decode cX13_number 40 = .ok (.iconst 1, 1) := by decide +kernel
theorem dX13_number_41 : decode cX13_number 41 = .ok (.goto 4, 3) := by decide +kernel
theorem dX13_number_44 : decode cX13_number 44 = .ok (.iconst 0, 1) := by decide +kernel
theorem dX13_number_45 : decode cX13_number 45 = .ok (.istore_n 3, 1) := by decide +kernel
theorem dX13_number_46 : decode cX13_number 46 = .ok (.lconst 0, 1) := by decide +kernel
theorem dX13_number_47 : decode cX13_number 47 = .ok (.lstore 4, 2) := by decide +kernel
theorem dX13_number_49 : decode cX13_number 49 = .ok (.aload_n 0, 1) := by decide +kernel
theorem dX13_number_50 : decode cX13_number 50 = .ok (.getfield 389, 3) := by decide +kernel
theorem dX13_number_53 : decode cX13_number 53 = .ok (.istore 6, 2) := by decide +kernel
theorem dX13_number_55 : decode cX13_number 55 = .ok (.iload 6, 2) := by decide +kernel
theorem dX13_number_57 : decode cX13_number 57 = .ok (.aload_n 0, 1) := by decide +kernel
theorem dX13_number_58 : decode cX13_number 58 = .ok (.getfield 386, 3) := by decide +kernel
theorem dX13_number_61 : decode cX13_number 61 = .ok (.if_icmp .ge 34, 3) := by decide +kernel
theorem dX13_number_64 : decode cX13_number 64 = .ok (.iload_n 3, 1) := by decide +kernel
theorem dX13_number_65 : decode cX13_number 65 = .ok (.ifCond .eq 30, 3) := by decide +kernel
theorem dX13_number_68 : decode cX13_number 68 = .ok (.ldc2_w 408, 3) := by decide +kernel
theorem dX13_number_71 : decode cX13_number 71 = .ok (.lload 4, 2) := by decide +kernel
theorem dX13_number_73 : decode cX13_number 73 = .ok (.lmul, 1) := by decide +kernel
theorem dX13_number_74 : decode cX13_number 74 = .ok (.aload_n 0, 1) := by decide +kernel
theorem dX13_number_75 : decode cX13_number 75 = .ok (.getfield 44, 3) := by decide +kernel
theorem dX13_number_78 : decode cX13_number 78 = .ok (.iload 6, 2) := by decide +kernel
theorem dX13_number_80 : decode cX13_number 80 = .ok (.iaload, 1) := by decide +kernel
theorem dX13_number_81 : decode cX13_number 81 = .ok (.i2l, 1) := by decide +kernel
theorem dX13_number_82 : decode cX13_number 82 = .ok (.ladd, 1) := by decide +kernel
theorem dX13_number_83 : decode cX13_number 83 = .ok (.ldc2_w 410, 3) := by decide +kernel
theorem dX13_number_86 : decode cX13_number 86 = .ok (.lsub, 1) := by decide +kernel
theorem dX13_number_87 : decode cX13_number 87 = .ok (.lstore 4, 2) := by decide +kernel
theorem dX13_number_89 : decode cX13_number 89 = .ok (.iinc 6 1, 3) := by decide +kernel
theorem dX13_number_92 : decode cX13_number 92 = .ok (.goto (-37), 3) := by decide +kernel
theorem dX13_number_95 : decode cX13_number 95 = .ok (.aload_n 0, 1) := by decide +kernel
theorem dX13_number_96 : decode cX13_number 96 = .ok (.iload_n 3, 1) := by decide +kernel
theorem dX13_number_97 : decode cX13_number 97 = .ok (.ifCond .eq 14, 3) := by decide +kernel
theorem dX13_number_100 : decode cX13_number 100 = .ok (.lload 4, 2) := by decide +kernel
theorem dX13_number_102 : decode cX13_number 102 = .ok (.lload_n 1, 1) := by decide +kernel
theorem dX13_number_103 : decode cX13_number 103 = .ok (.lcmp, 1) := by decide +kernel
theorem dX13_number_104 : decode cX13_number 104 = .ok (.ifCond .ge 7, 3) := by decide +kernel
theorem dX13_number_107 : decode cX13_number 107 = .ok (.iconst 1, 1) := by decide +kernel
theorem dX13_number_108 : decode cX13_number 108 = .ok (.goto 4, 3) := by decide +kernel
theorem dX13_number_111 : decode cX13_number 111 = .ok (.iconst 0, 1) := by decide +kernel
theorem dX13_number_112 : decode cX13_number 112 = .ok (.invokevirtual 412, 3) := by decide +kernel
theorem dX13_number_115 : decode cX13_number 115 = .ok (.lload 4, 2) := by decide +kernel
theorem dX13_number_117 : decode cX13_number 117 = .ok (.lreturn, 1) := by decide +kernel
theorem dX13_isNew_0 : decode cX13_isNew 0 = .ok (.lload_n 1, 1) := by decide +kernel
theorem dX13_isNew_1 : decode cX13_isNew 1 = .ok (.lconst 0, 1) := by decide +kernel
theorem dX13_isNew_2 : decode cX13_isNew 2 = .ok (.lcmp, 1) := by decide +kernel
theorem dX13_isNew_3 : decode cX13_isNew 3 = .ok (.ifCond .le 13, 3) := by decide +kernel
theorem dX13_isNew_6 : decode cX13_isNew 6 = .ok (.iload_n 3, 1) := by decide +kernel
theorem dX13_isNew_7 : decode cX13_isNew 7 = .ok (.bipush 20, 2) := by decide +kernel
theorem dX13_isNew_9 : decode cX13_isNew 9 = .ok (.if_icmp .ge 7, 3) := by decide +kernel
theorem dX13_isNew_12 : decode cX13_isNew 12 = .ok (.iconst 1, 1) := by decide +kernel
theorem dX13_isNew_13 : decode cX13_isNew 13 = .ok (.goto 4, 3) := by decide +kernel
theorem dX13_isNew_16 : decode cX13_isNew 16 = .ok (.iconst 0, 1) := by decide +kernel
theorem dX13_isNew_17 : decode cX13_isNew 17 = .ok (.istore 4, 2) := by decide +kernel
theorem dX13_isNew_19 : decode cX13_isNew 19 = .ok (.iconst 0, 1) := by decide +kernel
theorem dX13_isNew_20 : decode cX13_isNew 20 = .ok (.istore 5, 2) := by decide +kernel
theorem dX13_isNew_22 : decode cX13_isNew 22 = .ok (.iload 5, 2) := by decide +kernel
theorem dX13_isNew_24 : decode cX13_isNew 24 = .ok (.iload_n 3, 1) := by decide +kernel
theorem dX13_isNew_25 : decode cX13_isNew 25 = .ok (.if_icmp .ge 33, 3) := by decide +kernel
theorem dX13_isNew_28 : decode cX13_isNew 28 = .ok (.iload 4, 2) := by decide +kernel
theorem dX13_isNew_30 : decode cX13_isNew 30 = .ok (.ifCond .eq 19, 3) := by decide +kernel
theorem dX13_isNew_33 : decode cX13_isNew 33 = .ok (.aload_n 0, 1) := by decide +kernel
theorem dX13_isNew_34 : decode cX13_isNew 34 = .ok (.getfield 68, 3) := by decide +kernel
theorem dX13_isNew_37 : decode cX13_isNew 37 = .ok (.iload 5, 2) := by decide +kernel
theorem dX13_isNew_39 : decode cX13_isNew 39 = .ok (.laload, 1) := by decide +kernel
theorem dX13_isNew_40 : decode cX13_isNew 40 = .ok (.lload_n 1, 1) := by decide +kernel
theorem dX13_isNew_41 : decode cX13_isNew 41 = .ok (.lcmp, 1) := by decide +kernel
theorem dX13_isNew_42 : decode cX13_isNew 42 = .ok (.ifCond .eq 7, 3) := by decide +kernel
theorem dX13_isNew_45 : decode cX13_isNew 45 = .ok (.iconst 1, 1) := by decide +kernel
theorem dX13_isNew_46 : decode cX13_isNew 46 = .ok (.goto 4, 3) := by decide +kernel
theorem dX13_isNew_49 : decode cX13_isNew 49 = .ok (.iconst 0, 1) := by decide +kernel
theorem dX13_isNew_50 : decode cX13_isNew 50 = .ok (.istore 4, 2) := by decide +kernel
theorem dX13_isNew_52 : decode cX13_isNew 52 = .ok (.iinc 5 1, 3) := by decide +kernel
theorem dX13_isNew_55 : decode cX13_isNew 55 = .ok (.goto (-33), 3) := by decide +kernel
theorem dX13_isNew_58 : decode cX13_isNew 58 = .ok (.iload 4, 2) := by decide +kernel
theorem dX13_isNew_60 : decode cX13_isNew 60 = .ok (.ireturn, 1) := by decide +kernel
set_option maxRecDepth 20000 in
theorem ggX13_readRule_X13_name : GoodIn wsX13_readRule wsX13_name := goodIn_r _ [17, 18, 19, 20, 21, 22, 23, 24, 16, 25, 67, 68, 69, 70, 71, 72, 73, 74, 75, 76, 77, 78, 79, 80, 81, 82, 83, 84, 85, 86, 87, 88, 89, 90, 91, 92, 93, 94, 95, 96, 97, 98, 99, 100, 101, 102, 103, 104, 105, 106, 107, 108, 109, 110, 111, 112, 113, 114, 115, 116, 117, 118, 119, 120, 121, 122, 123, 124, 125, 126, 127, 128, 129, 130, 131, 132, 133, 134, 135, 136, 137] (by decide +kernel) (by decide +kernel)
set_option maxRecDepth 20000 in
theorem gX13_readRule_X13_name : GoodIn wsX13_readRule (wsV RX13 422 RX13 yX13_name wsX13_name) := goodIn_app (goodIn_of _ (by decide +kernel)) ggX13_readRule_X13_name
set_option maxRecDepth 20000 in
theorem ggX13_readRule_X13_isNew : GoodIn wsX13_readRule wsX13_isNew := goodIn_r _ [29, 2, 67, 68, 69, 70, 71, 72, 73, 74, 75, 76, 77, 78, 79, 80, 81, 82, 83, 84, 85, 86, 87, 88, 89, 90, 91, 92, 93, 94, 95, 96, 97, 98, 99, 100, 101, 102, 103, 104, 105, 106, 107, 108, 109, 110, 111, 112, 113, 114, 115, 116, 117, 118, 119, 120, 121, 122, 123, 124, 125, 126, 127, 128, 129, 130, 131, 132, 133, 134, 135, 136, 137] (by decide +kernel) (by decide +kernel)
set_option maxRecDepth 20000 in
theorem gX13_readRule_X13_isNew : GoodIn wsX13_readRule (wsV RX13 426 RX13 yX13_isNew wsX13_isNew) := goodIn_app (goodIn_of _ (by decide +kernel)) ggX13_readRule_X13_isNew
set_option maxRecDepth 20000 in
theorem ggX13_readRule_X13_take_ : GoodIn wsX13_readRule wsX13_take_ := goodIn_r _ [33, 1, 34, 35, 36, 16, 37, 38, 19, 18, 39, 20, 23, 24, 25, 40, 41, 42, 67, 68, 69, 70, 71, 72, 73, 74, 75, 76, 77, 78, 79, 80, 81, 82, 83, 84, 85, 86, 87, 88, 89, 90, 91, 92, 93, 94, 95, 96, 97, 98, 99, 100, 101, 102, 103, 104, 105, 106, 107, 108, 109, 110, 111, 112, 113, 114, 115, 116, 117, 118, 119, 120, 121, 122, 123, 124, 125, 126, 127, 128, 129, 130, 131, 132, 133, 134, 135, 136, 137] (by decide +kernel) (by decide +kernel)
set_option maxRecDepth 20000 in
theorem gX13_readRule_X13_take_ : GoodIn wsX13_readRule (wsV RX13 412 RX13 yX13_take_ wsX13_take_) := goodIn_app (goodIn_of _ (by decide +kernel)) ggX13_readRule_X13_take_
set_option maxRecDepth 20000 in
theorem ggX13_readRule_X13_is : GoodIn wsX13_readRule wsX13_is := goodIn_r _ [46, 19, 18, 20, 67, 68, 69, 70, 71, 72, 73, 74, 75, 76, 77, 78, 79, 80, 81, 82, 83, 84, 85, 86, 87, 88, 89, 90, 91, 92, 93, 94, 95, 96, 97, 98, 99, 100, 101, 102, 103, 104, 105, 106, 107, 108, 109, 110, 111, 112, 113, 114, 115, 116, 117, 118, 119, 120, 121, 122, 123, 124, 125, 126, 127, 128, 129, 130, 131, 132, 133, 134, 135, 136, 137] (by decide +kernel) (by decide +kernel)
set_option maxRecDepth 20000 in
theorem gX13_readRule_X13_is : GoodIn wsX13_readRule (wsV RX13 430 RX13 yX13_is wsX13_is) := goodIn_app (goodIn_of _ (by decide +kernel)) ggX13_readRule_X13_is
set_option maxRecDepth 20000 in
theorem ggX13_readRule_X13_number : GoodIn wsX13_readRule wsX13_number := goodIn_r _ [60, 18, 19, 20, 61, 62, 40, 41, 16, 42, 30, 31, 32, 33, 1, 34, 35, 36, 37, 38, 39, 23, 24, 25, 67, 68, 69, 70, 71, 72, 73, 74, 75, 76, 77, 78, 79, 80, 81, 82, 83, 84, 85, 86, 87, 88, 89, 90, 91, 92, 93, 94, 95, 96, 97, 98, 99, 100, 101, 102, 103, 104, 105, 106, 107, 108, 109, 110, 111, 112, 113, 114, 115, 116, 117, 118, 119, 120, 121, 122, 123, 124, 125, 126, 127, 128, 129, 130, 131, 132, 133, 134, 135, 136, 137] (by decide +kernel) (by decide +kernel)
set_option maxRecDepth 20000 in
theorem gX13_readRule_X13_number : GoodIn wsX13_readRule (wsV RX13 437 RX13 yX13_number wsX13_number) := goodIn_app (goodIn_of _ (by decide +kernel)) ggX13_readRule_X13_number
theorem dX13_readRule_0 : decode cX13_readRule 0 = .ok (.bipush 20, 2) := by decide +kernel
theorem dX13_readRule_2 : decode cX13_readRule 2 = .ok (.iload_n 1, 1) := by decide +kernel
theorem dX13_readRule_3 : decode cX13_readRule 3 = .ok (.iadd, 1) := by decide +kernel
theorem dX13_readRule_4 : decode cX13_readRule 4 = .ok (.istore_n 2, 1) := by decide +kernel
theorem dX13_readRule_5 : decode cX13_readRule 5 = .ok (.aload_n 0, 1) := by decide +kernel
theorem dX13_readRule_6 : decode cX13_readRule 6 = .ok (.invokevirtual 422, 3) := by decide +kernel
theorem dX13_readRule_9 : decode cX13_readRule 9 = .ok (.lstore_n 3, 1) := by decide +kernel
theorem dX13_readRule_10 : decode cX13_readRule 10 = .ok (.aload_n 0, 1) := by decide +kernel
theorem dX13_readRule_11 : decode cX13_readRule 11 = .ok (.aload_n 0, 1) := by decide +kernel
theorem dX13_readRule_12 : decode cX13_readRule 12 = .ok (.lload_n 3, 1) := by decide +kernel
theorem dX13_readRule_13 : decode cX13_readRule 13 = .ok (.iload_n 1, 1) := by decide +kernel
theorem dX13_readRule_14 : decode cX13_readRule 14 = .ok (.invokevirtual 426, 3) := by decide +kernel
theorem dX13_readRule_17 : decode cX13_readRule 17 = .ok (.invokevirtual 412, 3) := by decide +kernel
theorem dX13_readRule_20 : decode cX13_readRule 20 = .ok (.aload_n 0, 1) := by decide +kernel
theorem dX13_readRule_21 : decode cX13_readRule 21 = .ok (.getfield 402, 3) := by decide +kernel
theorem dX13_readRule_24 : decode cX13_readRule 24 = .ok (.ifCond .eq 10, 3) := by decide +kernel
theorem dX13_readRule_27 : decode cX13_readRule 27 = .ok (.aload_n 0, 1) := by decide +kernel
theorem dX13_readRule_28 : decode cX13_readRule 28 = .ok (.getfield 68, 3) := by decide +kernel
theorem dX13_readRule_31 : decode cX13_readRule 31 = .ok (.iload_n 1, 1) := by decide +kernel
theorem dX13_readRule_32 : decode cX13_readRule 32 = .ok (.lload_n 3, 1) := by decide +kernel
theorem dX13_readRule_33 : decode cX13_readRule 33 = .ok (.lastore, 1) := by decide +kernel
theorem dX13_readRule_34 : decode cX13_readRule 34 = .ok (.aload_n 0, 1) := by decide +kernel
theorem dX13_readRule_35 : decode cX13_readRule 35 = .ok (.aload_n 0, 1) := by decide +kernel
theorem dX13_readRule_36 : decode cX13_readRule 36 = .ok (.bipush 61, 2) := by decide +kernel
theorem dX13_readRule_38 : decode cX13_readRule 38 = .ok (.invokevirtual 430, 3) := by decide +kernel
theorem dX13_readRule_41 : decode cX13_readRule 41 = .ok (.invokevirtual 412, 3) := by decide +kernel
theorem dX13_readRule_44 : decode cX13_readRule 44 = .ok (.aload_n 0, 1) := by decide +kernel
theorem dX13_readRule_45 : decode cX13_readRule 45 = .ok (.getfield 402, 3) := by decide +kernel
theorem dX13_readRule_48 : decode cX13_readRule 48 = .ok (.ifCond .eq 14, 3) := by decide +kernel
theorem dX13_readRule_51 : decode cX13_readRule 51 = .ok (.aload_n 0, 1) := by decide +kernel
theorem dX13_readRule_52 : decode cX13_readRule 52 = .ok (.aload_n 0, 1) := by decide +kernel
theorem dX13_readRule_53 : decode cX13_readRule 53 = .ok (.invokevirtual 422, 3) := by decide +kernel
theorem dX13_readRule_56 : decode cX13_readRule 56 = .ok (.invokevirtual 433, 3) := by decide +kernel
theorem dX13_readRule_59 : decode cX13_readRule 59 = .ok (.goto 4, 3) := by decide +kernel
theorem dX13_readRule_62 : decode cX13_readRule 62 = .ok (.iconst (-1), 1) := by decide +kernel
theorem dX13_readRule_63 : decode cX13_readRule 63 = .ok (.istore 5, 2) := by decide +kernel
theorem dX13_readRule_65 : decode cX13_readRule 65 = .ok (.aload_n 0, 1) := by decide +kernel
theorem dX13_readRule_66 : decode cX13_readRule 66 = .ok (.iload 5, 2) := by decide +kernel
theorem dX13_readRule_68 : decode cX13_readRule 68 = .ok (.iconst (-1), 1) := by decide +kernel
theorem dX13_readRule_69 : decode cX13_readRule 69 = .ok (.if_icmp .eq 7, 3) := by decide +kernel
theorem dX13_readRule_72 : decode cX13_readRule 72 = .ok (.iconst 1, 1) := by decide +kernel
theorem dX13_readRule_73 : decode cX13_readRule 73 = .ok (.goto 4, 3) := by decide +kernel
theorem dX13_readRule_76 : decode cX13_readRule 76 = .ok (.iconst 0, 1) := by decide +kernel
theorem dX13_readRule_77 : decode cX13_readRule 77 = .ok (.invokevirtual 412, 3) := by decide +kernel
theorem dX13_readRule_80 : decode cX13_readRule 80 = .ok (.aload_n 0, 1) := by decide +kernel
theorem dX13_readRule_81 : decode cX13_readRule 81 = .ok (.aload_n 0, 1) := by decide +kernel
theorem dX13_readRule_82 : decode cX13_readRule 82 = .ok (.getfield 138, 3) := by decide +kernel
theorem dX13_readRule_85 : decode cX13_readRule 85 = .ok (.i2l, 1) := by decide +kernel
theorem dX13_readRule_86 : decode cX13_readRule 86 = .ok (.invokevirtual 437, 3) := by decide +kernel
theorem dX13_readRule_89 : decode cX13_readRule 89 = .ok (.l2i, 1) := by decide +kernel
theorem dX13_readRule_90 : decode cX13_readRule 90 = .ok (.istore 6, 2) := by decide +kernel
theorem dX13_readRule_92 : decode cX13_readRule 92 = .ok (.aload_n 0, 1) := by decide +kernel
theorem dX13_readRule_93 : decode cX13_readRule 93 = .ok (.getfield 402, 3) := by decide +kernel
theorem dX13_readRule_96 : decode cX13_readRule 96 = .ok (.ifCond .eq 23, 3) := by decide +kernel
theorem dX13_readRule_99 : decode cX13_readRule 99 = .ok (.iload 5, 2) := by decide +kernel
theorem dX13_readRule_101 : decode cX13_readRule 101 = .ok (.bipush 7, 2) := by decide +kernel
theorem dX13_readRule_103 : decode cX13_readRule 103 = .ok (.if_icmp .lt 16, 3) := by decide +kernel
theorem dX13_readRule_106 : decode cX13_readRule 106 = .ok (.aload_n 0, 1) := by decide +kernel
theorem dX13_readRule_107 : decode cX13_readRule 107 = .ok (.aload_n 0, 1) := by decide +kernel
theorem dX13_readRule_108 : decode cX13_readRule 108 = .ok (.getfield 138, 3) := by decide +kernel
theorem dX13_readRule_111 : decode cX13_readRule 111 = .ok (.i2l, 1) := by decide +kernel
theorem dX13_readRule_112 : decode cX13_readRule 112 = .ok (.invokevirtual 437, 3) := by decide +kernel
theorem dX13_readRule_115 : decode cX13_readRule 115 = .ok (.l2i, 1) := by decide +kernel
theorem dX13_readRule_116 : decode cX13_readRule 116 = .ok (.goto 5, 3) := by decide +kernel
theorem dX13_readRule_119 : decode cX13_readRule 119 = .ok (.iload 6, 2) := by decide +kernel
theorem dX13_readRule_121 : decode cX13_readRule 121 = .ok (.istore 7, 2) := by decide +kernel
theorem dX13_readRule_123 : decode cX13_readRule 123 = .ok (.aload_n 0, 1) := by decide +kernel
theorem dX13_readRule_124 : decode cX13_readRule 124 = .ok (.aload_n 0, 1) := by decide +kernel
theorem dX13_readRule_125 : decode cX13_readRule 125 = .ok (.bipush 60, 2) := by decide +kernel
theorem dX13_readRule_127 : decode cX13_readRule 127 = .ok (.invokevirtual 430, 3) := by decide +kernel
theorem dX13_readRule_130 : decode cX13_readRule 130 = .ok (.invokevirtual 412, 3) := by decide +kernel
theorem dX13_readRule_133 : decode cX13_readRule 133 = .ok (.aload_n 0, 1) := by decide +kernel
theorem dX13_readRule_134 : decode cX13_readRule 134 = .ok (.ldc2_w 441, 3) := by decide +kernel
theorem dX13_readRule_137 : decode cX13_readRule 137 = .ok (.invokevirtual 437, 3) := by decide +kernel
theorem dX13_readRule_140 : decode cX13_readRule 140 = .ok (.lstore 8, 2) := by decide +kernel
theorem dX13_readRule_142 : decode cX13_readRule 142 = .ok (.aload_n 0, 1) := by decide +kernel
theorem dX13_readRule_143 : decode cX13_readRule 143 = .ok (.getfield 402, 3) := by decide +kernel
theorem dX13_readRule_146 : decode cX13_readRule 146 = .ok (.ifCond .ne 4, 3) := by decide +kernel
theorem dX13_readRule_149 : decode cX13_readRule 149 = .ok (.return_, 1) := by decide +kernel
theorem dX13_readRule_150 : decode cX13_readRule 150 = .ok (.aload_n 0, 1) := by decide +kernel
theorem dX13_readRule_151 : decode cX13_readRule 151 = .ok (.getfield 47, 3) := by decide +kernel
theorem dX13_readRule_154 : decode cX13_readRule 154 = .ok (.iload_n 2, 1) := by decide +kernel
theorem dX13_readRule_155 : decode cX13_readRule 155 = .ok (.iload 5, 2) := by decide +kernel
theorem dX13_readRule_157 : decode cX13_readRule 157 = .ok (.iastore, 1) := by decide +kernel
theorem dX13_readRule_158 : decode cX13_readRule 158 = .ok (.aload_n 0, 1) := by decide +kernel
theorem dX13_readRule_159 : decode cX13_readRule 159 = .ok (.getfield 50, 3) := by decide +kernel
theorem dX13_readRule_162 : decode cX13_readRule 162 = .ok (.iload_n 2, 1) := by decide +kernel
theorem dX13_readRule_163 : decode cX13_readRule 163 = .ok (.iload 6, 2) := by decide +kernel
theorem dX13_readRule_165 : decode cX13_readRule 165 = .ok (.iastore, 1) := by decide +kernel
theorem dX13_readRule_166 : decode cX13_readRule 166 = .ok (.aload_n 0, 1) := by decide +kernel
theorem dX13_readRule_167 : decode cX13_readRule 167 = .ok (.getfield 53, 3) := by decide +kernel
theorem dX13_readRule_170 : decode cX13_readRule 170 = .ok (.iload_n 2, 1) := by decide +kernel
theorem dX13_readRule_171 : decode cX13_readRule 171 = .ok (.iload 7, 2) := by decide +kernel
theorem dX13_readRule_173 : decode cX13_readRule 173 = .ok (.iastore, 1) := by decide +kernel
theorem dX13_readRule_174 : decode cX13_readRule 174 = .ok (.aload_n 0, 1) := by decide +kernel
theorem dX13_readRule_175 : decode cX13_readRule 175 = .ok (.getfield 56, 3) := by decide +kernel
theorem dX13_readRule_178 : decode cX13_readRule 178 = .ok (.iload_n 2, 1) := by decide +kernel
theorem dX13_readRule_179 : decode cX13_readRule 179 = .ok (.lload 8, 2) := by decide +kernel
theorem dX13_readRule_181 : decode cX13_readRule 181 = .ok (.lastore, 1) := by decide +kernel
theorem dX13_readRule_182 : decode cX13_readRule 182 = .ok (.aload_n 0, 1) := by decide +kernel
theorem dX13_readRule_183 : decode cX13_readRule 183 = .ok (.getfield 59, 3) := by decide +kernel
theorem dX13_readRule_186 : decode cX13_readRule 186 = .ok (.iload_n 2, 1) := by decide +kernel
theorem dX13_readRule_187 : decode cX13_readRule 187 = .ok (.ldc2_w 443, 3) := by decide +kernel
theorem dX13_readRule_190 : decode cX13_readRule 190 = .ok (.lastore, 1) := by decide +kernel
theorem dX13_readRule_191 : decode cX13_readRule 191 = .ok (.aload_n 0, 1) := by decide +kernel
theorem dX13_readRule_192 : decode cX13_readRule 192 = .ok (.getfield 62, 3) := by decide +kernel
theorem dX13_readRule_195 : decode cX13_readRule 195 = .ok (.iload_n 2, 1) := by decide +kernel
theorem dX13_readRule_196 : decode cX13_readRule 196 = .ok (.ldc2_w 443, 3) := by decide +kernel
theorem dX13_readRule_199 : decode cX13_readRule 199 = .ok (.lastore, 1) := by decide +kernel
theorem dX13_readRule_200 : decode cX13_readRule 200 = .ok (.aload_n 0, 1) := by decide +kernel
theorem dX13_readRule_201 : decode cX13_readRule 201 = .ok (.getfield 65, 3) := by decide +kernel
theorem dX13_readRule_204 : decode cX13_readRule 204 = .ok (.iload_n 2, 1) := by decide +kernel
theorem dX13_readRule_205 : decode cX13_readRule 205 = .ok (.ldc2_w 443, 3) := by decide +kernel
theorem dX13_readRule_208 : decode cX13_readRule 208 = .ok (.lastore, 1) := by decide +kernel
theorem dX13_readRule_209 : decode cX13_readRule 209 = .ok (.aload_n 0, 1) := by decide +kernel
theorem dX13_readRule_210 : decode cX13_readRule 210 = .ok (.getfield 402, 3) := by decide +kernel
theorem dX13_readRule_213 : decode cX13_readRule 213 = .ok (.ifCond .eq 20, 3) := by decide +kernel
theorem dX13_readRule_216 : decode cX13_readRule 216 = .ok (.aload_n 0, 1) := by decide +kernel
theorem dX13_readRule_217 : decode cX13_readRule 217 = .ok (.bipush 59, 2) := by decide +kernel
theorem dX13_readRule_219 : decode cX13_readRule 219 = .ok (.invokevirtual 430, 3) := by decide +kernel
theorem dX13_readRule_222 : decode cX13_readRule 222 = .ok (.ifCond .ne 11, 3) := by decide +kernel
theorem dX13_readRule_225 : decode cX13_readRule 225 = .ok (.aload_n 0, 1) := by decide +kernel
theorem dX13_readRule_226 : decode cX13_readRule 226 = .ok (.iload_n 2, 1) := by decide +kernel
theorem dX13_readRule_227 : decode cX13_readRule 227 = .ok (.invokevirtual 445, 3) := by decide +kernel
theorem dX13_readRule_230 : decode cX13_readRule 230 = .ok (.goto (-21), 3) := by decide +kernel
theorem dX13_readRule_233 : decode cX13_readRule 233 = .ok (.aload_n 0, 1) := by decide +kernel
theorem dX13_readRule_234 : decode cX13_readRule 234 = .ok (.aload_n 0, 1) := by decide +kernel
theorem dX13_readRule_235 : decode cX13_readRule 235 = .ok (.bipush 59, 2) := by decide +kernel
theorem dX13_readRule_237 : decode cX13_readRule 237 = .ok (.invokevirtual 430, 3) := by decide +kernel
theorem dX13_readRule_240 : decode cX13_readRule 240 = .ok (.invokevirtual 412, 3) := by decide +kernel
theorem dX13_readRule_243 : decode cX13_readRule 243 = .ok (.aload_n 0, 1) := by decide +kernel
theorem dX13_readRule_244 : decode cX13_readRule 244 = .ok (.getfield 59, 3) := by decide +kernel
theorem dX13_readRule_247 : decode cX13_readRule 247 = .ok (.iload_n 2, 1) := by decide +kernel
theorem dX13_readRule_248 : decode cX13_readRule 248 = .ok (.aload_n 0, 1) := by decide +kernel
theorem dX13_readRule_249 : decode cX13_readRule 249 = .ok (.getfield 59, 3) := by decide +kernel
theorem dX13_readRule_252 : decode cX13_readRule 252 = .ok (.iload_n 2, 1) := by decide +kernel
theorem dX13_readRule_253 : decode cX13_readRule 253 = .ok (.laload, 1) := by decide +kernel
theorem dX13_readRule_254 : decode cX13_readRule 254 = .ok (.lconst 1, 1) := by decide +kernel
theorem dX13_readRule_255 : decode cX13_readRule 255 = .ok (.lcmp, 1) := by decide +kernel
theorem dX13_readRule_256 : decode cX13_readRule 256 = .ok (.ifCond .ge 7, 3) := by decide +kernel
theorem dX13_readRule_259 : decode cX13_readRule 259 = .ok (.lconst 1, 1) := by decide +kernel
theorem dX13_readRule_260 : decode cX13_readRule 260 = .ok (.goto 9, 3) := by decide +kernel
theorem dX13_readRule_263 : decode cX13_readRule 263 = .ok (.aload_n 0, 1) := by decide +kernel
theorem dX13_readRule_264 : decode cX13_readRule 264 = .ok (.getfield 59, 3) := by decide +kernel
theorem dX13_readRule_267 : decode cX13_readRule 267 = .ok (.iload_n 2, 1) := by decide +kernel
theorem dX13_readRule_268 : decode cX13_readRule 268 = .ok (.laload, 1) := by decide +kernel
theorem dX13_readRule_269 : decode cX13_readRule 269 = .ok (.lastore, 1) := by decide +kernel
theorem dX13_readRule_270 : decode cX13_readRule 270 = .ok (.return_, 1) := by decide +kernel
set_option maxRecDepth 20000 in
theorem ggX13_read_X13_next : GoodIn wsX13_read wsX13_next := goodIn_r _ [22, 3, 2, 5, 6, 23, 24, 25, 21, 26, 27, 28, 29, 76, 77, 78, 79, 80, 81, 82, 83, 84, 85, 86, 87, 88, 89, 90, 91, 92, 93, 94, 95, 96, 97, 98, 99, 100, 101, 102, 103, 104, 105, 106, 107, 108, 109, 110, 111, 112, 113, 114, 115, 116, 117, 118, 119, 120, 121, 122, 123, 124, 125, 126, 127, 128, 129, 130, 131, 132, 133, 134, 135, 136, 137, 138, 139, 140, 141, 142, 143, 144, 145, 146] (by decide +kernel) (by decide +kernel)
set_option maxRecDepth 20000 in
theorem gX13_read_X13_next : GoodIn wsX13_read (wsV RX13 405 RX13 yX13_next wsX13_next) := goodIn_app (goodIn_of _ (by decide +kernel)) ggX13_read_X13_next
set_option maxRecDepth 20000 in
theorem ggX13_read_X13_readRule : GoodIn wsX13_read wsX13_readRule := goodIn_r _ [33, 4, 34, 35, 36, 8, 9, 10, 11, 12, 37, 13, 14, 38, 39, 40, 21, 41, 5, 2, 23, 42, 43, 24, 25, 26, 44, 45, 46, 47, 48, 49, 50, 51, 18, 19, 20, 22, 3, 6, 27, 28, 29, 52, 53, 54, 55, 56, 57, 58, 59, 60, 61, 62, 63, 64, 65, 66, 67, 68, 69, 70, 71, 72, 73, 74, 75, 76, 77, 78, 79, 80, 81, 82, 83, 84, 85, 86, 87, 88, 89, 90, 91, 92, 93, 94, 95, 96, 97, 98, 99, 100, 101, 102, 103, 104, 105, 106, 107, 108, 109, 110, 111, 112, 113, 114, 115, 116, 117, 118, 119, 120, 121, 122, 123, 124, 125, 126, 127, 128, 129, 130, 131, 132, 133, 134, 135, 136, 137, 138, 139, 140, 141, 142, 143, 144, 145, 146] (by decide +kernel) (by decide +kernel)
set_option maxRecDepth 20000 in
theorem gX13_read_X13_readRule : GoodIn wsX13_read (wsV RX13 448 RX13 yX13_readRule wsX13_readRule) := goodIn_app (goodIn_of _ (by decide +kernel)) ggX13_read_X13_readRule
theorem dX13_read_0 : decode cX13_read 0 = .ok (.aload_n 0, 1) := by decide +kernel
theorem dX13_read_1 : decode cX13_read 1 = .ok (.iconst 0, 1) := by decide +kernel
theorem dX13_read_2 : decode cX13_read 2 = .ok (.putfield 141, 3) := by decide +kernel
theorem dX13_read_5 : decode cX13_read 5 = .ok (.aload_n 0, 1) := by decide +kernel
theorem dX13_read_6 : decode cX13_read 6 = .ok (.iconst 0, 1) := by decide +kernel
theorem dX13_read_7 : decode cX13_read 7 = .ok (.putfield 386, 3) := by decide +kernel
theorem dX13_read_10 : decode cX13_read 10 = .ok (.aload_n 0, 1) := by decide +kernel
theorem dX13_read_11 : decode cX13_read 11 = .ok (.iconst (-1), 1) := by decide +kernel
theorem dX13_read_12 : decode cX13_read 12 = .ok (.putfield 383, 3) := by decide +kernel
theorem dX13_read_15 : decode cX13_read 15 = .ok (.aload_n 0, 1) := by decide +kernel
theorem dX13_read_16 : decode cX13_read 16 = .ok (.iconst 1, 1) := by decide +kernel
theorem dX13_read_17 : decode cX13_read 17 = .ok (.putfield 402, 3) := by decide +kernel
theorem dX13_read_20 : decode cX13_read 20 = .ok (.aload_n 0, 1) := by decide +kernel
theorem dX13_read_21 : decode cX13_read 21 = .ok (.invokevirtual 405, 3) := by decide +kernel
theorem dX13_read_24 : decode cX13_read 24 = .ok (.iconst 0, 1) := by decide +kernel
theorem dX13_read_25 : decode cX13_read 25 = .ok (.istore_n 1, 1) := by decide +kernel
theorem dX13_read_26 : decode cX13_read 26 = .ok (.iconst 1, 1) := by decide +kernel
theorem dX13_read_27 : decode cX13_read 27 = .ok (.istore_n 2, 1) := by decide +kernel
theorem dX13_read_28 : decode cX13_read 28 = .ok (.aload_n 0, 1) := by decide +kernel
theorem dX13_read_29 : decode cX13_read 29 = .ok (.getfield 402, 3) := by decide +kernel
theorem dX13_read_32 : decode cX13_read 32 = .ok (.ifCond .eq 35, 3) := by decide +kernel
theorem dX13_read_35 : decode cX13_read 35 = .ok (.iload_n 2, 1) := by decide +kernel
theorem dX13_read_36 : decode cX13_read 36 = .ok (.ifCond .eq 31, 3) := by decide +kernel
theorem dX13_read_39 : decode cX13_read 39 = .ok (.aload_n 0, 1) := by decide +kernel
theorem dX13_read_40 : decode cX13_read 40 = .ok (.iload_n 1, 1) := by decide +kernel
theorem dX13_read_41 : decode cX13_read 41 = .ok (.invokevirtual 448, 3) := by decide +kernel
theorem dX13_read_44 : decode cX13_read 44 = .ok (.iinc 1 1, 3) := by decide +kernel
theorem dX13_read_47 : decode cX13_read 47 = .ok (.aload_n 0, 1) := by decide +kernel
theorem dX13_read_48 : decode cX13_read 48 = .ok (.getfield 389, 3) := by decide +kernel
theorem dX13_read_51 : decode cX13_read 51 = .ok (.aload_n 0, 1) := by decide +kernel
theorem dX13_read_52 : decode cX13_read 52 = .ok (.getfield 377, 3) := by decide +kernel
theorem dX13_read_55 : decode cX13_read 55 = .ok (.if_icmp .ge 7, 3) := by decide +kernel
theorem dX13_read_58 : decode cX13_read 58 = .ok (.iconst 1, 1) := by decide +kernel
theorem dX13_read_59 : decode cX13_read 59 = .ok (.goto 4, 3) := by decide +kernel
theorem dX13_read_62 : decode cX13_read 62 = .ok (.iconst 0, 1) := by decide +kernel
theorem dX13_read_63 : decode cX13_read 63 = .ok (.istore_n 2, 1) := by decide +kernel
theorem dX13_read_64 : decode cX13_read 64 = .ok (.goto (-36), 3) := by decide +kernel
theorem dX13_read_67 : decode cX13_read 67 = .ok (.aload_n 0, 1) := by decide +kernel
theorem dX13_read_68 : decode cX13_read 68 = .ok (.iconst 0, 1) := by decide +kernel
theorem dX13_read_69 : decode cX13_read 69 = .ok (.putfield 377, 3) := by decide +kernel
theorem dX13_read_72 : decode cX13_read 72 = .ok (.aload_n 0, 1) := by decide +kernel
theorem dX13_read_73 : decode cX13_read 73 = .ok (.getfield 402, 3) := by decide +kernel
theorem dX13_read_76 : decode cX13_read 76 = .ok (.ifCond .ne 10, 3) := by decide +kernel
theorem dX13_read_79 : decode cX13_read 79 = .ok (.iconst (-1), 1) := by decide +kernel
theorem dX13_read_80 : decode cX13_read 80 = .ok (.aload_n 0, 1) := by decide +kernel
theorem dX13_read_81 : decode cX13_read 81 = .ok (.getfield 383, 3) := by decide +kernel
theorem dX13_read_84 : decode cX13_read 84 = .ok (.isub, 1) := by decide +kernel
theorem dX13_read_85 : decode cX13_read 85 = .ok (.ireturn, 1) := by decide +kernel
theorem dX13_read_86 : decode cX13_read 86 = .ok (.aload_n 0, 1) := by decide +kernel
theorem dX13_read_87 : decode cX13_read 87 = .ok (.iload_n 1, 1) := by decide +kernel
theorem dX13_read_88 : decode cX13_read 88 = .ok (.putfield 342, 3) := by decide +kernel
theorem dX13_read_91 : decode cX13_read 91 = .ok (.iconst 0, 1) := by decide +kernel
theorem dX13_read_92 : decode cX13_read 92 = .ok (.istore_n 3, 1) := by decide +kernel
theorem dX13_read_93 : decode cX13_read 93 = .ok (.iload_n 3, 1) := by decide +kernel
theorem dX13_read_94 : decode cX13_read 94 = .ok (.iload_n 1, 1) := by decide +kernel
theorem dX13_read_95 : decode cX13_read 95 = .ok (.if_icmp .ge 114, 3) := by decide +kernel
theorem dX13_read_98 : decode cX13_read 98 = .ok (.aload_n 0, 1) := by decide +kernel
theorem dX13_read_99 : decode cX13_read 99 = .ok (.getfield 47, 3) := by decide +kernel
theorem dX13_read_102 : decode cX13_read 102 = .ok (.iload_n 3, 1) := by decide +kernel
theorem dX13_read_103 : decode cX13_read 103 = .ok (.aload_n 0, 1) := by decide +kernel
theorem dX13_read_104 : decode cX13_read 104 = .ok (.getfield 47, 3) := by decide +kernel
theorem dX13_read_107 : decode cX13_read 107 = .ok (.bipush 20, 2) := by decide +kernel
theorem dX13_read_109 : decode cX13_read 109 = .ok (.iload_n 3, 1) := by decide +kernel
theorem dX13_read_110 : decode cX13_read 110 = .ok (.iadd, 1) := by decide +kernel
theorem dX13_read_111 : decode cX13_read 111 = .ok (.iaload, 1) := by decide +kernel
theorem dX13_read_112 : decode cX13_read 112 = .ok (.iastore, 1) := by decide +kernel
theorem dX13_read_113 : decode cX13_read 113 = .ok (.aload_n 0, 1) := by decide +kernel
theorem dX13_read_114 : decode cX13_read 114 = .ok (.getfield 50, 3) := by decide +kernel
theorem dX13_read_117 : decode cX13_read 117 = .ok (.iload_n 3, 1) := by decide +kernel
theorem dX13_read_118 : decode cX13_read 118 = .ok (.aload_n 0, 1) := by decide +kernel
theorem dX13_read_119 : decode cX13_read 119 = .ok (.getfield 50, 3) := by decide +kernel
theorem dX13_read_122 : decode cX13_read 122 = .ok (.bipush 20, 2) := by decide +kernel
theorem dX13_read_124 : decode cX13_read 124 = .ok (.iload_n 3, 1) := by decide +kernel
theorem dX13_read_125 : decode cX13_read 125 = .ok (.iadd, 1) := by decide +kernel
theorem dX13_read_126 : decode cX13_read 126 = .ok (.iaload, 1) := by decide +kernel
theorem dX13_read_127 : decode cX13_read 127 = .ok (.iastore, 1) := by decide +kernel
theorem dX13_read_128 : decode cX13_read 128 = .ok (.aload_n 0, 1) := by decide +kernel
theorem dX13_read_129 : decode cX13_read 129 = .ok (.getfield 53, 3) := by decide +kernel
theorem dX13_read_132 : decode cX13_read 132 = .ok (.iload_n 3, 1) := by decide +kernel
theorem dX13_read_133 : decode cX13_read 133 = .ok (.aload_n 0, 1) := by decide +kernel
theorem dX13_read_134 : decode cX13_read 134 = .ok (.getfield 53, 3) := by decide +kernel
theorem dX13_read_137 : decode cX13_read 137 = .ok (.bipush 20, 2) := by decide +kernel
theorem dX13_read_139 : decode cX13_read 139 = .ok (.iload_n 3, 1) := by decide +kernel
theorem dX13_read_140 : decode cX13_read 140 = .ok (.iadd, 1) := by decide +kernel
theorem dX13_read_141 : decode cX13_read 141 = .ok (.iaload, 1) := by decide +kernel
theorem dX13_read_142 : decode cX13_read 142 = .ok (.iastore, 1) := by decide +kernel
theorem dX13_read_143 : decode cX13_read 143 = .ok (.aload_n 0, 1) := by decide +kernel
theorem dX13_read_144 : decode cX13_read 144 = .ok (.getfield 56, 3) := by decide +kernel
theorem dX13_read_147 : decode cX13_read 147 = .ok (.iload_n 3, 1) := by decide +kernel
theorem dX13_read_148 : decode cX13_read 148 = .ok (.aload_n 0, 1) := by decide +kernel
theorem dX13_read_149 : decode cX13_read 149 = .ok (.getfield 56, 3) := by decide +kernel
theorem dX13_read_152 : decode cX13_read 152 = .ok (.bipush 20, 2) := by decide +kernel
theorem dX13_read_154 : decode cX13_read 154 = .ok (.iload_n 3, 1) := by decide +kernel
theorem dX13_read_155 : decode cX13_read 155 = .ok (.iadd, 1) := by decide +kernel
theorem dX13_read_156 : decode cX13_read 156 = .ok (.laload, 1) := by decide +kernel
theorem dX13_read_157 : decode cX13_read 157 = .ok (.lastore, 1) := by decide +kernel
theorem dX13_read_158 : decode cX13_read 158 = .ok (.aload_n 0, 1) := by decide +kernel
theorem dX13_read_159 : decode cX13_read 159 = .ok (.getfield 59, 3) := by decide +kernel
theorem dX13_read_162 : decode cX13_read 162 = .ok (.iload_n 3, 1) := by decide +kernel
theorem dX13_read_163 : decode cX13_read 163 = .ok (.aload_n 0, 1) := by decide +kernel
theorem dX13_read_164 : decode cX13_read 164 = .ok (.getfield 59, 3) := by decide +kernel
theorem dX13_read_167 : decode cX13_read 167 = .ok (.bipush 20, 2) := by decide +kernel
theorem dX13_read_169 : decode cX13_read 169 = .ok (.iload_n 3, 1) := by decide +kernel
theorem dX13_read_170 : decode cX13_read 170 = .ok (.iadd, 1) := by decide +kernel
theorem dX13_read_171 : decode cX13_read 171 = .ok (.laload, 1) := by decide +kernel
theorem dX13_read_172 : decode cX13_read 172 = .ok (.lastore, 1) := by decide +kernel
theorem dX13_read_173 : decode cX13_read 173 = .ok (.aload_n 0, 1) := by decide +kernel
theorem dX13_read_174 : decode cX13_read 174 = .ok (.getfield 62, 3) := by decide +kernel
theorem dX13_read_177 : decode cX13_read 177 = .ok (.iload_n 3, 1) := by decide +kernel
theorem dX13_read_178 : decode cX13_read 178 = .ok (.aload_n 0, 1) := by decide +kernel
theorem dX13_read_179 : decode cX13_read 179 = .ok (.getfield 62, 3) := by decide +kernel
theorem dX13_read_182 : decode cX13_read 182 = .ok (.bipush 20, 2) := by decide +kernel
theorem dX13_read_184 : decode cX13_read 184 = .ok (.iload_n 3, 1) := by decide +kernel
theorem dX13_read_185 : decode cX13_read 185 = .ok (.iadd, 1) := by decide +kernel
theorem dX13_read_186 : decode cX13_read 186 = .ok (.laload, 1) := by decide +kernel
theorem dX13_read_187 : decode cX13_read 187 = .ok (.lastore, 1) := by decide +kernel
theorem dX13_read_188 : decode cX13_read 188 = .ok (.aload_n 0, 1) := by decide +kernel
theorem dX13_read_189 : decode cX13_read 189 = .ok (.getfield 65, 3) := by decide +kernel
theorem dX13_read_192 : decode cX13_read 192 = .ok (.iload_n 3, 1) := by decide +kernel
theorem dX13_read_193 : decode cX13_read 193 = .ok (.aload_n 0, 1) := by decide +kernel
theorem dX13_read_194 : decode cX13_read 194 = .ok (.getfield 65, 3) := by decide +kernel
theorem dX13_read_197 : decode cX13_read 197 = .ok (.bipush 20, 2) := by decide +kernel
theorem dX13_read_199 : decode cX13_read 199 = .ok (.iload_n 3, 1) := by decide +kernel
theorem dX13_read_200 : decode cX13_read 200 = .ok (.iadd, 1) := by decide +kernel
theorem dX13_read_201 : decode cX13_read 201 = .ok (.laload, 1) := by decide +kernel
theorem dX13_read_202 : decode cX13_read 202 = .ok (.lastore, 1) := by decide +kernel
theorem dX13_read_203 : decode cX13_read 203 = .ok (.iinc 3 1, 3) := by decide +kernel
theorem dX13_read_206 : decode cX13_read 206 = .ok (.goto (-113), 3) := by decide +kernel
theorem dX13_read_209 : decode cX13_read 209 = .ok (.aload_n 0, 1) := by decide +kernel
theorem dX13_read_210 : decode cX13_read 210 = .ok (.iconst 0, 1) := by decide +kernel
theorem dX13_read_211 : decode cX13_read 211 = .ok (.putfield 356, 3) := by decide +kernel
theorem dX13_read_214 : decode cX13_read 214 = .ok (.aload_n 0, 1) := by decide +kernel
theorem dX13_read_215 : decode cX13_read 215 = .ok (.iconst (-1), 1) := by decide +kernel
theorem dX13_read_216 : decode cX13_read 216 = .ok (.putfield 75, 3) := by decide +kernel
theorem dX13_read_219 : decode cX13_read 219 = .ok (.aload_n 0, 1) := by decide +kernel
theorem dX13_read_220 : decode cX13_read 220 = .ok (.iconst 0, 1) := by decide +kernel
theorem dX13_read_221 : decode cX13_read 221 = .ok (.putfield 251, 3) := by decide +kernel
theorem dX13_read_224 : decode cX13_read 224 = .ok (.iload_n 1, 1) := by decide +kernel
theorem dX13_read_225 : decode cX13_read 225 = .ok (.ireturn, 1) := by decide +kernel

abbrev mX13_next : sv_M := (cX13_next, 3, yX13_next, wsX13_next, none, { frames := 20, cells := 0, slots := 0, locals := 1000 }, [])
abbrev mX13_name : sv_M := (cX13_name, 4, yX13_name, wsX13_name, (some .long), { frames := 20, cells := 0, slots := 0, locals := 1000 }, [])
abbrev mX13_isNew : sv_M := (cX13_isNew, 6, yX13_isNew, wsX13_isNew, (some .boolean), { frames := 0, cells := 0, slots := 0, locals := 0 }, [])
abbrev mX13_take_ : sv_M := (cX13_take_, 2, yX13_take_, wsX13_take_, none, { frames := 30, cells := 0, slots := 0, locals := 1500 }, [])
abbrev mX13_is : sv_M := (cX13_is, 2, yX13_is, wsX13_is, (some .boolean), { frames := 0, cells := 0, slots := 0, locals := 0 }, [])
abbrev mX13_number : sv_M := (cX13_number, 7, yX13_number, wsX13_number, (some .long), { frames := 40, cells := 0, slots := 0, locals := 2000 }, [])
abbrev mX13_readRule : sv_M := (cX13_readRule, 10, yX13_readRule, wsX13_readRule, none, { frames := 60, cells := 0, slots := 0, locals := 4000 }, [])
