theorem iwX5_settle_X5 : ∀ w ∈ wsX50, w ∈ wsX5_settle := by decide +kernel
theorem iwX5_extend_X5 : ∀ w ∈ wsX50, w ∈ wsX5_extend := by decide +kernel
set_option maxRecDepth 20000 in
theorem ggX5_extend_X5_closes : GoodIn wsX5_extend wsX5_closes := goodIn_r _ [9, 1, 2, 3, 48, 49, 50, 51, 52, 53, 54, 55, 56, 57] (by decide +kernel) (by decide +kernel)
set_option maxRecDepth 20000 in
theorem gX5_extend_X5_closes : GoodIn wsX5_extend (wsV RX5 34 RX5 yX5_closes wsX5_closes) := goodIn_app (goodIn_of _ (by decide +kernel)) ggX5_extend_X5_closes
set_option maxRecDepth 20000 in
theorem ggX5_extend_X5_alternates : GoodIn wsX5_extend wsX5_alternates := goodIn_r _ [13, 1, 14, 15, 16, 8, 17, 2, 18, 19, 20, 21, 48, 49, 50, 51, 52, 53, 54, 55, 56, 57] (by decide +kernel) (by decide +kernel)
set_option maxRecDepth 20000 in
theorem gX5_extend_X5_alternates : GoodIn wsX5_extend (wsV RX5 38 RX5 yX5_alternates wsX5_alternates) := goodIn_app (goodIn_of _ (by decide +kernel)) ggX5_extend_X5_alternates
set_option maxRecDepth 20000 in
theorem ggX5_extend_X5_crosses : GoodIn wsX5_extend wsX5_crosses := goodIn_r _ [25, 1, 18, 19, 20, 8, 21, 26, 27, 28, 29, 2, 30, 31, 32, 33, 34, 35, 36, 3, 48, 49, 50, 51, 52, 53, 54, 55, 56, 57] (by decide +kernel) (by decide +kernel)
set_option maxRecDepth 20000 in
theorem gX5_extend_X5_crosses : GoodIn wsX5_extend (wsV RX5 41 RX5 yX5_crosses wsX5_crosses) := goodIn_app (goodIn_of _ (by decide +kernel)) ggX5_extend_X5_crosses
set_option maxRecDepth 20000 in
theorem ggX5_extend_X5_settle : GoodIn wsX5_extend wsX5_settle := goodIn_r _ [40, 1, 2, 3, 41, 42, 43, 18, 19, 20, 8, 21, 44, 45, 46, 47, 14, 15, 16, 17, 48, 49, 50, 51, 52, 53, 54, 55, 56, 57] (by decide +kernel) (by decide +kernel)
set_option maxRecDepth 20000 in
theorem gX5_extend_X5_settle : GoodIn wsX5_extend (wsV RX5 48 RX5 yX5_settle wsX5_settle) := goodIn_app (goodIn_of _ (by decide +kernel)) ggX5_extend_X5_settle
theorem dX5_extend_0 : decode cX5_extend 0 = .ok (.aload_n 0, 1) := by decide +kernel
theorem dX5_extend_1 : decode cX5_extend 1 = .ok (.getfield 31, 3) := by decide +kernel
theorem dX5_extend_4 : decode cX5_extend 4 = .ok (.ifCond .le 48, 3) := by decide +kernel
theorem dX5_extend_7 : decode cX5_extend 7 = .ok (.iload_n 1, 1) := by decide +kernel
theorem dX5_extend_8 : decode cX5_extend 8 = .ok (.aload_n 0, 1) := by decide +kernel
theorem dX5_extend_9 : decode cX5_extend 9 = .ok (.getfield 9, 3) := by decide +kernel
theorem dX5_extend_12 : decode cX5_extend 12 = .ok (.aload_n 0, 1) := by decide +kernel
theorem dX5_extend_13 : decode cX5_extend 13 = .ok (.getfield 31, 3) := by decide +kernel
theorem dX5_extend_16 : decode cX5_extend 16 = .ok (.iconst 1, 1) := by decide +kernel
theorem dX5_extend_17 : decode cX5_extend 17 = .ok (.isub, 1) := by decide +kernel
theorem dX5_extend_18 : decode cX5_extend 18 = .ok (.iaload, 1) := by decide +kernel
theorem dX5_extend_19 : decode cX5_extend 19 = .ok (.if_icmp .ne 7, 3) := by decide +kernel
theorem dX5_extend_22 : decode cX5_extend 22 = .ok (.iconst 1, 1) := by decide +kernel
theorem dX5_extend_23 : decode cX5_extend 23 = .ok (.goto 4, 3) := by decide +kernel
theorem dX5_extend_26 : decode cX5_extend 26 = .ok (.iconst 0, 1) := by decide +kernel
theorem dX5_extend_27 : decode cX5_extend 27 = .ok (.iload_n 2, 1) := by decide +kernel
theorem dX5_extend_28 : decode cX5_extend 28 = .ok (.aload_n 0, 1) := by decide +kernel
theorem dX5_extend_29 : decode cX5_extend 29 = .ok (.getfield 15, 3) := by decide +kernel
theorem dX5_extend_32 : decode cX5_extend 32 = .ok (.aload_n 0, 1) := by decide +kernel
theorem dX5_extend_33 : decode cX5_extend 33 = .ok (.getfield 31, 3) := by decide +kernel
theorem dX5_extend_36 : decode cX5_extend 36 = .ok (.iconst 1, 1) := by decide +kernel
theorem dX5_extend_37 : decode cX5_extend 37 = .ok (.isub, 1) := by decide +kernel
theorem dX5_extend_38 : decode cX5_extend 38 = .ok (.iaload, 1) := by decide +kernel
theorem dX5_extend_39 : decode cX5_extend 39 = .ok (.if_icmp .ne 7, 3) := by decide +kernel
theorem dX5_extend_42 : decode cX5_extend 42 = .ok (.iconst 1, 1) := by decide +kernel
theorem dX5_extend_43 : decode cX5_extend 43 = .ok (.goto 4, 3) := by decide +kernel
theorem dX5_extend_46 : decode cX5_extend 46 = .ok (.iconst 0, 1) := by decide +kernel
theorem dX5_extend_47 : decode cX5_extend 47 = .ok (.if_icmp .ne 5, 3) := by decide +kernel
theorem dX5_extend_50 : decode cX5_extend 50 = .ok (.iconst 0, 1) := by decide +kernel
theorem dX5_extend_51 : decode cX5_extend 51 = .ok (.ireturn, 1) := by decide +kernel
theorem dX5_extend_52 : decode cX5_extend 52 = .ok (.aload_n 0, 1) := by decide +kernel
theorem dX5_extend_53 : decode cX5_extend 53 = .ok (.getfield 9, 3) := by decide +kernel
theorem dX5_extend_56 : decode cX5_extend 56 = .ok (.aload_n 0, 1) := by decide +kernel
theorem dX5_extend_57 : decode cX5_extend 57 = .ok (.getfield 31, 3) := by decide +kernel
theorem dX5_extend_60 : decode cX5_extend 60 = .ok (.iload_n 1, 1) := by decide +kernel
theorem dX5_extend_61 : decode cX5_extend 61 = .ok (.iastore, 1) := by decide +kernel
theorem dX5_extend_62 : decode cX5_extend 62 = .ok (.aload_n 0, 1) := by decide +kernel
theorem dX5_extend_63 : decode cX5_extend 63 = .ok (.getfield 15, 3) := by decide +kernel
theorem dX5_extend_66 : decode cX5_extend 66 = .ok (.aload_n 0, 1) := by decide +kernel
theorem dX5_extend_67 : decode cX5_extend 67 = .ok (.getfield 31, 3) := by decide +kernel
theorem dX5_extend_70 : decode cX5_extend 70 = .ok (.iload_n 2, 1) := by decide +kernel
theorem dX5_extend_71 : decode cX5_extend 71 = .ok (.iastore, 1) := by decide +kernel
theorem dX5_extend_72 : decode cX5_extend 72 = .ok (.aload_n 0, 1) := by decide +kernel
theorem dX5_extend_73 : decode cX5_extend 73 = .ok (.dup, 1) := by decide +kernel
theorem dX5_extend_74 : decode cX5_extend 74 = .ok (.getfield 31, 3) := by decide +kernel
theorem dX5_extend_77 : decode cX5_extend 77 = .ok (.iconst 1, 1) := by decide +kernel
theorem dX5_extend_78 : decode cX5_extend 78 = .ok (.iadd, 1) := by decide +kernel
theorem dX5_extend_79 : decode cX5_extend 79 = .ok (.putfield 31, 3) := by decide +kernel
theorem dX5_extend_82 : decode cX5_extend 82 = .ok (.aload_n 0, 1) := by decide +kernel
theorem dX5_extend_83 : decode cX5_extend 83 = .ok (.aload_n 0, 1) := by decide +kernel
theorem dX5_extend_84 : decode cX5_extend 84 = .ok (.invokevirtual 34, 3) := by decide +kernel
theorem dX5_extend_87 : decode cX5_extend 87 = .ok (.ifCond .eq 21, 3) := by decide +kernel
theorem dX5_extend_90 : decode cX5_extend 90 = .ok (.aload_n 0, 1) := by decide +kernel
theorem dX5_extend_91 : decode cX5_extend 91 = .ok (.invokevirtual 38, 3) := by decide +kernel
theorem dX5_extend_94 : decode cX5_extend 94 = .ok (.ifCond .eq 14, 3) := by decide +kernel
theorem dX5_extend_97 : decode cX5_extend 97 = .ok (.aload_n 0, 1) := by decide +kernel
theorem dX5_extend_98 : decode cX5_extend 98 = .ok (.invokevirtual 41, 3) := by decide +kernel
theorem dX5_extend_101 : decode cX5_extend 101 = .ok (.ifCond .ne 7, 3) := by decide +kernel
theorem dX5_extend_104 : decode cX5_extend 104 = .ok (.iconst 1, 1) := by decide +kernel
theorem dX5_extend_105 : decode cX5_extend 105 = .ok (.goto 4, 3) := by decide +kernel
theorem dX5_extend_108 : decode cX5_extend 108 = .ok (.iconst 0, 1) := by decide +kernel
theorem dX5_extend_109 : decode cX5_extend 109 = .ok (.putfield 44, 3) := by decide +kernel
theorem dX5_extend_112 : decode cX5_extend 112 = .ok (.aload_n 0, 1) := by decide +kernel
theorem dX5_extend_113 : decode cX5_extend 113 = .ok (.getfield 44, 3) := by decide +kernel
theorem dX5_extend_116 : decode cX5_extend 116 = .ok (.ifCond .eq 7, 3) := by decide +kernel
theorem dX5_extend_119 : decode cX5_extend 119 = .ok (.aload_n 0, 1) := by decide +kernel
theorem dX5_extend_120 : decode cX5_extend 120 = .ok (.invokevirtual 48, 3) := by decide +kernel
theorem dX5_extend_123 : decode cX5_extend 123 = .ok (.iconst 1, 1) := by decide +kernel
theorem dX5_extend_124 : decode cX5_extend 124 = .ok (.ireturn, 1) := by decide +kernel
set_option maxRecDepth 20000 in
theorem ggX5_settle_X5_after : GoodIn wsX5_settle wsX5_after := goodIn_r _ [11, 1, 20, 21, 22, 23, 24, 25, 26, 27, 28, 29] (by decide +kernel) (by decide +kernel)
set_option maxRecDepth 20000 in
theorem gX5_settle_X5_after : GoodIn wsX5_settle (wsV RX5 55 RX5 yX5_after wsX5_after) := goodIn_app (goodIn_of _ (by decide +kernel)) ggX5_settle_X5_after
set_option maxRecDepth 20000 in
theorem ggX5_settle_X5_heading : GoodIn wsX5_settle wsX5_heading := goodIn_r _ [15, 3, 2, 7, 8, 9, 10, 11, 1, 16, 17, 18, 19, 20, 21, 22, 23, 24, 25, 26, 27, 28, 29] (by decide +kernel) (by decide +kernel)
set_option maxRecDepth 20000 in
theorem gX5_settle_X5_heading : GoodIn wsX5_settle (wsV RX5 75 RX5 yX5_heading wsX5_heading) := goodIn_app (goodIn_of _ (by decide +kernel)) ggX5_settle_X5_heading
theorem dX5_settle_0 : decode cX5_settle 0 = .ok (.lconst 0, 1) := by decide +kernel
theorem dX5_settle_1 : decode cX5_settle 1 = .ok (.lstore_n 1, 1) := by decide +kernel
theorem dX5_settle_2 : decode cX5_settle 2 = .ok (.iconst 0, 1) := by decide +kernel
theorem dX5_settle_3 : decode cX5_settle 3 = .ok (.istore_n 3, 1) := by decide +kernel
theorem dX5_settle_4 : decode cX5_settle 4 = .ok (.iload_n 3, 1) := by decide +kernel
theorem dX5_settle_5 : decode cX5_settle 5 = .ok (.aload_n 0, 1) := by decide +kernel
theorem dX5_settle_6 : decode cX5_settle 6 = .ok (.getfield 31, 3) := by decide +kernel
theorem dX5_settle_9 : decode cX5_settle 9 = .ok (.if_icmp .ge 38, 3) := by decide +kernel
theorem dX5_settle_12 : decode cX5_settle 12 = .ok (.lload_n 1, 1) := by decide +kernel
theorem dX5_settle_13 : decode cX5_settle 13 = .ok (.aload_n 0, 1) := by decide +kernel
theorem dX5_settle_14 : decode cX5_settle 14 = .ok (.getfield 9, 3) := by decide +kernel
theorem dX5_settle_17 : decode cX5_settle 17 = .ok (.iload_n 3, 1) := by decide +kernel
theorem dX5_settle_18 : decode cX5_settle 18 = .ok (.iaload, 1) := by decide +kernel
theorem dX5_settle_19 : decode cX5_settle 19 = .ok (.i2l, 1) := by decide +kernel
theorem dX5_settle_20 : decode cX5_settle 20 = .ok (.aload_n 0, 1) := by decide +kernel
theorem dX5_settle_21 : decode cX5_settle 21 = .ok (.getfield 15, 3) := by decide +kernel
theorem dX5_settle_24 : decode cX5_settle 24 = .ok (.aload_n 0, 1) := by decide +kernel
theorem dX5_settle_25 : decode cX5_settle 25 = .ok (.iload_n 3, 1) := by decide +kernel
theorem dX5_settle_26 : decode cX5_settle 26 = .ok (.invokevirtual 55, 3) := by decide +kernel
theorem dX5_settle_29 : decode cX5_settle 29 = .ok (.iaload, 1) := by decide +kernel
theorem dX5_settle_30 : decode cX5_settle 30 = .ok (.aload_n 0, 1) := by decide +kernel
theorem dX5_settle_31 : decode cX5_settle 31 = .ok (.getfield 15, 3) := by decide +kernel
theorem dX5_settle_34 : decode cX5_settle 34 = .ok (.iload_n 3, 1) := by decide +kernel
theorem dX5_settle_35 : decode cX5_settle 35 = .ok (.iaload, 1) := by decide +kernel
theorem dX5_settle_36 : decode cX5_settle 36 = .ok (.isub, 1) := by decide +kernel
theorem dX5_settle_37 : decode cX5_settle 37 = .ok (.i2l, 1) := by decide +kernel
theorem dX5_settle_38 : decode cX5_settle 38 = .ok (.lmul, 1) := by decide +kernel
theorem dX5_settle_39 : decode cX5_settle 39 = .ok (.ladd, 1) := by decide +kernel
theorem dX5_settle_40 : decode cX5_settle 40 = .ok (.lstore_n 1, 1) := by decide +kernel
theorem dX5_settle_41 : decode cX5_settle 41 = .ok (.iinc 3 1, 3) := by decide +kernel
theorem dX5_settle_44 : decode cX5_settle 44 = .ok (.goto (-40), 3) := by decide +kernel
theorem dX5_settle_47 : decode cX5_settle 47 = .ok (.lload_n 1, 1) := by decide +kernel
theorem dX5_settle_48 : decode cX5_settle 48 = .ok (.lconst 0, 1) := by decide +kernel
theorem dX5_settle_49 : decode cX5_settle 49 = .ok (.lcmp, 1) := by decide +kernel
theorem dX5_settle_50 : decode cX5_settle 50 = .ok (.ifCond .le 7, 3) := by decide +kernel
theorem dX5_settle_53 : decode cX5_settle 53 = .ok (.iconst 1, 1) := by decide +kernel
theorem dX5_settle_54 : decode cX5_settle 54 = .ok (.goto 4, 3) := by decide +kernel
theorem dX5_settle_57 : decode cX5_settle 57 = .ok (.iconst 0, 1) := by decide +kernel
theorem dX5_settle_58 : decode cX5_settle 58 = .ok (.istore_n 3, 1) := by decide +kernel
theorem dX5_settle_59 : decode cX5_settle 59 = .ok (.aload_n 0, 1) := by decide +kernel
theorem dX5_settle_60 : decode cX5_settle 60 = .ok (.iload_n 3, 1) := by decide +kernel
theorem dX5_settle_61 : decode cX5_settle 61 = .ok (.ifCond .eq 7, 3) := by decide +kernel
theorem dX5_settle_64 : decode cX5_settle 64 = .ok (.lload_n 1, 1) := by decide +kernel
theorem dX5_settle_65 : decode cX5_settle 65 = .ok (.goto 5, 3) := by decide +kernel
theorem dX5_settle_68 : decode cX5_settle 68 = .ok (.lload_n 1, 1) := by decide +kernel
theorem dX5_settle_69 : decode cX5_settle 69 = .ok (.lneg, 1) := by decide +kernel
theorem dX5_settle_70 : decode cX5_settle 70 = .ok (.l2i, 1) := by decide +kernel
theorem dX5_settle_71 : decode cX5_settle 71 = .ok (.putfield 72, 3) := by decide +kernel
theorem dX5_settle_74 : decode cX5_settle 74 = .ok (.iconst 0, 1) := by decide +kernel
theorem dX5_settle_75 : decode cX5_settle 75 = .ok (.istore 4, 2) := by decide +kernel
theorem dX5_settle_77 : decode cX5_settle 77 = .ok (.iload 4, 2) := by decide +kernel
theorem dX5_settle_79 : decode cX5_settle 79 = .ok (.aload_n 0, 1) := by decide +kernel
theorem dX5_settle_80 : decode cX5_settle 80 = .ok (.getfield 31, 3) := by decide +kernel
theorem dX5_settle_83 : decode cX5_settle 83 = .ok (.if_icmp .ge 34, 3) := by decide +kernel
theorem dX5_settle_86 : decode cX5_settle 86 = .ok (.aload_n 0, 1) := by decide +kernel
theorem dX5_settle_87 : decode cX5_settle 87 = .ok (.getfield 18, 3) := by decide +kernel
theorem dX5_settle_90 : decode cX5_settle 90 = .ok (.iload 4, 2) := by decide +kernel
theorem dX5_settle_92 : decode cX5_settle 92 = .ok (.aload_n 0, 1) := by decide +kernel
theorem dX5_settle_93 : decode cX5_settle 93 = .ok (.iload 4, 2) := by decide +kernel
theorem dX5_settle_95 : decode cX5_settle 95 = .ok (.invokevirtual 75, 3) := by decide +kernel
theorem dX5_settle_98 : decode cX5_settle 98 = .ok (.iload_n 3, 1) := by decide +kernel
theorem dX5_settle_99 : decode cX5_settle 99 = .ok (.ifCond .eq 7, 3) := by decide +kernel
theorem dX5_settle_102 : decode cX5_settle 102 = .ok (.iconst 3, 1) := by decide +kernel
theorem dX5_settle_103 : decode cX5_settle 103 = .ok (.goto 4, 3) := by decide +kernel
theorem dX5_settle_106 : decode cX5_settle 106 = .ok (.iconst 1, 1) := by decide +kernel
theorem dX5_settle_107 : decode cX5_settle 107 = .ok (.iadd, 1) := by decide +kernel
theorem dX5_settle_108 : decode cX5_settle 108 = .ok (.iconst 3, 1) := by decide +kernel
theorem dX5_settle_109 : decode cX5_settle 109 = .ok (.iand, 1) := by decide +kernel
theorem dX5_settle_110 : decode cX5_settle 110 = .ok (.iastore, 1) := by decide +kernel
theorem dX5_settle_111 : decode cX5_settle 111 = .ok (.iinc 4 1, 3) := by decide +kernel
theorem dX5_settle_114 : decode cX5_settle 114 = .ok (.goto (-37), 3) := by decide +kernel
theorem dX5_settle_117 : decode cX5_settle 117 = .ok (.iconst 0, 1) := by decide +kernel
theorem dX5_settle_118 : decode cX5_settle 118 = .ok (.istore 4, 2) := by decide +kernel
theorem dX5_settle_120 : decode cX5_settle 120 = .ok (.iload 4, 2) := by decide +kernel
theorem dX5_settle_122 : decode cX5_settle 122 = .ok (.aload_n 0, 1) := by decide +kernel
theorem dX5_settle_123 : decode cX5_settle 123 = .ok (.getfield 31, 3) := by decide +kernel
theorem dX5_settle_126 : decode cX5_settle 126 = .ok (.if_icmp .ge 85, 3) := by decide +kernel
theorem dX5_settle_129 : decode cX5_settle 129 = .ok (.aload_n 0, 1) := by decide +kernel
theorem dX5_settle_130 : decode cX5_settle 130 = .ok (.iload 4, 2) := by decide +kernel
theorem dX5_settle_132 : decode cX5_settle 132 = .ok (.invokevirtual 55, 3) := by decide +kernel
theorem dX5_settle_135 : decode cX5_settle 135 = .ok (.istore 5, 2) := by decide +kernel
theorem dX5_settle_137 : decode cX5_settle 137 = .ok (.aload_n 0, 1) := by decide +kernel
theorem dX5_settle_138 : decode cX5_settle 138 = .ok (.iload 5, 2) := by decide +kernel
theorem dX5_settle_140 : decode cX5_settle 140 = .ok (.invokevirtual 75, 3) := by decide +kernel
theorem dX5_settle_143 : decode cX5_settle 143 = .ok (.aload_n 0, 1) := by decide +kernel
theorem dX5_settle_144 : decode cX5_settle 144 = .ok (.iload 4, 2) := by decide +kernel
theorem dX5_settle_146 : decode cX5_settle 146 = .ok (.invokevirtual 75, 3) := by decide +kernel
theorem dX5_settle_149 : decode cX5_settle 149 = .ok (.isub, 1) := by decide +kernel
theorem dX5_settle_150 : decode cX5_settle 150 = .ok (.iconst 3, 1) := by decide +kernel
theorem dX5_settle_151 : decode cX5_settle 151 = .ok (.iand, 1) := by decide +kernel
theorem dX5_settle_152 : decode cX5_settle 152 = .ok (.iconst 1, 1) := by decide +kernel
theorem dX5_settle_153 : decode cX5_settle 153 = .ok (.if_icmp .ne 7, 3) := by decide +kernel
theorem dX5_settle_156 : decode cX5_settle 156 = .ok (.iconst 1, 1) := by decide +kernel
theorem dX5_settle_157 : decode cX5_settle 157 = .ok (.goto 4, 3) := by decide +kernel
theorem dX5_settle_160 : decode cX5_settle 160 = .ok (.iconst 0, 1) := by decide +kernel
theorem dX5_settle_161 : decode cX5_settle 161 = .ok (.istore 6, 2) := by decide +kernel
theorem dX5_settle_163 : decode cX5_settle 163 = .ok (.iload_n 3, 1) := by decide +kernel
theorem dX5_settle_164 : decode cX5_settle 164 = .ok (.ifCond .eq 13, 3) := by decide +kernel
theorem dX5_settle_167 : decode cX5_settle 167 = .ok (.aload_n 0, 1) := by decide +kernel
theorem dX5_settle_168 : decode cX5_settle 168 = .ok (.getfield 18, 3) := by decide +kernel
theorem dX5_settle_171 : decode cX5_settle 171 = .ok (.iload 4, 2) := by decide +kernel
theorem dX5_settle_173 : decode cX5_settle 173 = .ok (.iaload, 1) := by decide +kernel
theorem dX5_settle_174 : decode cX5_settle 174 = .ok (.goto 10, 3) := by decide +kernel
theorem dX5_settle_177 : decode cX5_settle 177 = .ok (.aload_n 0, 1) := by decide +kernel
theorem dX5_settle_178 : decode cX5_settle 178 = .ok (.getfield 18, 3) := by decide +kernel
theorem dX5_settle_181 : decode cX5_settle 181 = .ok (.iload 5, 2) := by decide +kernel
theorem dX5_settle_183 : decode cX5_settle 183 = .ok (.iaload, 1) := by decide +kernel
theorem dX5_settle_184 : decode cX5_settle 184 = .ok (.istore 7, 2) := by decide +kernel
theorem dX5_settle_186 : decode cX5_settle 186 = .ok (.aload_n 0, 1) := by decide +kernel
theorem dX5_settle_187 : decode cX5_settle 187 = .ok (.getfield 21, 3) := by decide +kernel
theorem dX5_settle_190 : decode cX5_settle 190 = .ok (.iload 5, 2) := by decide +kernel
theorem dX5_settle_192 : decode cX5_settle 192 = .ok (.iload 6, 2) := by decide +kernel
theorem dX5_settle_194 : decode cX5_settle 194 = .ok (.iload_n 3, 1) := by decide +kernel
theorem dX5_settle_195 : decode cX5_settle 195 = .ok (.if_icmp .ne 8, 3) := by decide +kernel
theorem dX5_settle_198 : decode cX5_settle 198 = .ok (.iload 7, 2) := by decide +kernel
theorem dX5_settle_200 : decode cX5_settle 200 = .ok (.goto 4, 3) := by decide +kernel
theorem dX5_settle_203 : decode cX5_settle 203 = .ok (.iconst (-1), 1) := by decide +kernel
theorem dX5_settle_204 : decode cX5_settle 204 = .ok (.iastore, 1) := by decide +kernel
theorem dX5_settle_205 : decode cX5_settle 205 = .ok (.iinc 4 1, 3) := by decide +kernel
theorem dX5_settle_208 : decode cX5_settle 208 = .ok (.goto (-88), 3) := by decide +kernel
theorem dX5_settle_211 : decode cX5_settle 211 = .ok (.return_, 1) := by decide +kernel

abbrev mX5_settle : sv_M := (cX5_settle, 8, yX5_settle, wsX5_settle, none, { frames := 3, cells := 0, slots := 0, locals := 64 }, [])
set_option maxHeartbeats 4000000 in
set_option maxRecDepth 100000 in
theorem l_settle1 (G : sv_G) (P : sv_P) (h : sv_h) (z a n : Nat) (hm ly vo rt ar : Int32) (fx fy : Nat → Int32) (hp : h a = some (.inr (3, [.int hm, .int ly, .ref (a + 1), .ref (a + 2), .int (nI n), .int vo, .int rt, .int ar, .ref (a + 3), .ref (a + 4)]))) (hx : ab_I G h (a + 1) 16 fx) (hy : ab_I G h (a + 2) 16 fy) (hn : n ≤ 16) (hk : ∀ w3 : Int32, V G mX5_settle P 47 [(3, .int w3), (1, .long (gm_sum n fx fy n)), (0, .ref a)] [] h z 0 0) : ∀ (c i : Nat), i + c = n → V G mX5_settle P 4 [(3, .int (nI i)), (1, .long (gm_sum n fx fy i)), (0, .ref a)] [] h z 0 0 := by
  intro c
  induction c with
  | zero =>
    intro i hic
    refine v_iload_n dX5_settle_4 rfl 0 rfl ?_
    refine v_aload_n dX5_settle_5 rfl 2 rfl ?_
    refine v_getf 4 (ci := 3) (C := RX5) (T := TX5) (N := 10) rfl iwX5_settle_X5 (Nat.le_of_ble_eq_true rfl) (by decide +kernel) dX5_settle_6 (by repeat (first | (with_reducible refine sv_us.trans ?_; exact rfl) | with_reducible assumption | with_reducible refine (sv_un (by omega)).trans ?_)) rfl ?_
    refine v_icmp_ge (tgt := 47) dX5_settle_9 (by decide) (fun c_9 => ?_) (fun c_9 => ?_)
    · (obtain rfl : i = n := by omega)
      exact hk _
    · exact absurd (show nI n ≤ nI i from nI_le (by omega) (by omega)) c_9
  | succ c ih =>
    intro i hic
    refine v_iload_n dX5_settle_4 rfl 0 rfl ?_
    refine v_aload_n dX5_settle_5 rfl 2 rfl ?_
    refine v_getf 4 (ci := 3) (C := RX5) (T := TX5) (N := 10) rfl iwX5_settle_X5 (Nat.le_of_ble_eq_true rfl) (by decide +kernel) dX5_settle_6 (by repeat (first | (with_reducible refine sv_us.trans ?_; exact rfl) | with_reducible assumption | with_reducible refine (sv_un (by omega)).trans ?_)) rfl ?_
    refine v_icmp_ge (tgt := 47) dX5_settle_9 (by decide) (fun c_9 => ?_) (fun c_9 => ?_)
    · exact absurd c_9 (nI_ge (by omega) (by omega))
    · refine v_lload_n dX5_settle_12 rfl 1 rfl ?_
      refine v_aload_n dX5_settle_13 rfl 2 rfl ?_
      refine v_getf 2 (ci := 3) (C := RX5) (T := TX5) (N := 10) rfl iwX5_settle_X5 (Nat.le_of_ble_eq_true rfl) (by decide +kernel) dX5_settle_14 (by repeat (first | (with_reducible refine sv_us.trans ?_; exact rfl) | with_reducible assumption | with_reducible refine (sv_un (by omega)).trans ?_)) rfl ?_
      refine v_iload_n dX5_settle_17 rfl 0 rfl ?_
      refine v_ialdS (v := fx i) dX5_settle_18 (by repeat (first | (with_reducible refine sv_us.trans ?_; exact rfl) | with_reducible assumption | with_reducible refine (sv_un (by omega)).trans ?_)) (vp_in_nI (by have q9 := (show i < n by omega); omega) (by omega)) (by rw [nI_clamp (by have q9 := (show i < n by omega); omega)]) ?_
      refine v_i2l dX5_settle_19 rfl ?_
      refine v_aload_n dX5_settle_20 rfl 2 rfl ?_
      refine v_getf 3 (ci := 3) (C := RX5) (T := TX5) (N := 10) rfl iwX5_settle_X5 (Nat.le_of_ble_eq_true rfl) (by decide +kernel) dX5_settle_21 (by repeat (first | (with_reducible refine sv_us.trans ?_; exact rfl) | with_reducible assumption | with_reducible refine (sv_un (by omega)).trans ?_)) rfl ?_
      refine v_aload_n dX5_settle_24 rfl 2 rfl ?_
      refine v_iload_n dX5_settle_25 rfl 0 rfl ?_
      refine v_callV (M' := mX5_after) (n := 1) (As := [_]) (ci := 3) (r := (RX5, TX5, 10)) gX5_settle_X5_after rfl (by decide +kernel) ⟨(Nat.le_of_ble_eq_true rfl), (Nat.le_of_ble_eq_true rfl)⟩ rfl rfl dX5_settle_26 rfl ⟨(Nat.le_of_ble_eq_true rfl), (Nat.le_of_ble_eq_true rfl)⟩ (Nat.le_of_ble_eq_true rfl) (by repeat (first | (with_reducible refine sv_us.trans ?_; exact rfl) | with_reducible assumption | with_reducible refine (sv_un (by omega)).trans ?_)) rfl (c_after G _ _ a n _ _ _ _ _ fx fy hp hx hy hn i (by omega)) (fun v h1 z1 hq => ?_)
      obtain ⟨rfl, rfl, rfl⟩ := hq
      refine v_ialdS (v := fy (gm_aft n i)) dX5_settle_29 (by repeat (first | (with_reducible refine sv_us.trans ?_; exact rfl) | with_reducible assumption | with_reducible refine (sv_un (by omega)).trans ?_)) (vp_in_nI (by have q9 := (gm_aft_lt (n := n) (i := i) (by omega)); omega) (by omega)) (by rw [nI_clamp (by have q9 := (gm_aft_lt (n := n) (i := i) (by omega)); omega)]) ?_
      refine v_aload_n dX5_settle_30 rfl 2 rfl ?_
      refine v_getf 3 (ci := 3) (C := RX5) (T := TX5) (N := 10) rfl iwX5_settle_X5 (Nat.le_of_ble_eq_true rfl) (by decide +kernel) dX5_settle_31 (by repeat (first | (with_reducible refine sv_us.trans ?_; exact rfl) | with_reducible assumption | with_reducible refine (sv_un (by omega)).trans ?_)) rfl ?_
      refine v_iload_n dX5_settle_34 rfl 0 rfl ?_
      refine v_ialdS (v := fy i) dX5_settle_35 (by repeat (first | (with_reducible refine sv_us.trans ?_; exact rfl) | with_reducible assumption | with_reducible refine (sv_un (by omega)).trans ?_)) (vp_in_nI (by have q9 := (show i < n by omega); omega) (by omega)) (by rw [nI_clamp (by have q9 := (show i < n by omega); omega)]) ?_
      refine v_isub dX5_settle_36 ?_
      refine v_i2l dX5_settle_37 rfl ?_
      refine v_lmul dX5_settle_38 ?_
      refine v_ladd dX5_settle_39 ?_
      refine v_lstore_n (L' := [(1, _), (3, _), (0, _)]) dX5_settle_40 rfl (Nat.le_of_ble_eq_true rfl) rfl ?_
      refine v_iinc (j := 1) (L' := [(3, _), (1, _), (0, _)]) (v := nI (i + 1)) dX5_settle_41 rfl (nI_1 _) (Nat.le_of_ble_eq_true rfl) rfl ?_
      refine v_goto (tgt := 4) dX5_settle_44 (by decide) ?_
      refine v_sub (L' := [(3, _), (1, _), (0, _)]) [0, 1, 2] rfl ?_
      exact ih (i + 1) (by omega)

set_option maxHeartbeats 4000000 in
set_option maxRecDepth 100000 in
theorem l_settle2 (G : sv_G) (P : sv_P) (h : sv_h) (z a n : Nat) (hm ly vo rt ar : Int32) (fx fy : Nat → Int32) (hp : h a = some (.inr (3, [.int hm, .int ly, .ref (a + 1), .ref (a + 2), .int (nI n), .int vo, .int rt, .int ar, .ref (a + 3), .ref (a + 4)]))) (hx : ab_I G h (a + 1) 16 fx) (hy : ab_I G h (a + 2) 16 fy) (hn : n ≤ 16) (hk : ∀ (hi : sv_h) (ff : Nat → Int32) (w4 : Int32), ab_I G hi (a + 3) 16 ff → (∀ j, j < n → ff j = gm_face n fx fy j) → (∀ w, w ≠ a + 3 → hi w = h w) → V G mX5_settle P 117 [(4, .int w4), (3, .int (if gm_left n fx fy then 1 else 0 : Int32)), (0, .ref a)] [] hi z 0 0) : ∀ (c i : Nat) (hi : sv_h) (ff : Nat → Int32), i + c = n → ab_I G hi (a + 3) 16 ff → (∀ j, j < i → ff j = gm_face n fx fy j) → (∀ w, w ≠ a + 3 → hi w = h w) → V G mX5_settle P 77 [(4, .int (nI i)), (3, .int (if gm_left n fx fy then 1 else 0 : Int32)), (0, .ref a)] [] hi z 0 0 := by
  intro c
  induction c with
  | zero =>
    intro i hi ff hic hf hj hfr
    refine v_iload dX5_settle_77 0 rfl ?_
    refine v_aload_n dX5_settle_79 rfl 2 rfl ?_
    refine v_getf 4 (ci := 3) (C := RX5) (T := TX5) (N := 10) rfl iwX5_settle_X5 (Nat.le_of_ble_eq_true rfl) (by decide +kernel) dX5_settle_80 (by first | with_reducible assumption | exact (hfr _ (by omega)).trans hp) rfl ?_
    refine v_icmp_ge (tgt := 117) dX5_settle_83 (by decide) (fun c_83 => ?_) (fun c_83 => ?_)
    · (obtain rfl : i = n := by omega)
      exact hk _ ff _ hf hj hfr
    · exact absurd (show nI n ≤ nI i from nI_le (by omega) (by omega)) c_83
  | succ c ih =>
    intro i hi ff hic hf hj hfr
    refine v_iload dX5_settle_77 0 rfl ?_
    refine v_aload_n dX5_settle_79 rfl 2 rfl ?_
    refine v_getf 4 (ci := 3) (C := RX5) (T := TX5) (N := 10) rfl iwX5_settle_X5 (Nat.le_of_ble_eq_true rfl) (by decide +kernel) dX5_settle_80 (by first | with_reducible assumption | exact (hfr _ (by omega)).trans hp) rfl ?_
    refine v_icmp_ge (tgt := 117) dX5_settle_83 (by decide) (fun c_83 => ?_) (fun c_83 => ?_)
    · exact absurd c_83 (nI_ge (by omega) (by omega))
    · refine v_aload_n dX5_settle_86 rfl 2 rfl ?_
      refine v_getf 8 (ci := 3) (C := RX5) (T := TX5) (N := 10) rfl iwX5_settle_X5 (Nat.le_of_ble_eq_true rfl) (by decide +kernel) dX5_settle_87 (by first | with_reducible assumption | exact (hfr _ (by omega)).trans hp) rfl ?_
      refine v_iload dX5_settle_90 0 rfl ?_
      refine v_aload_n dX5_settle_92 rfl 2 rfl ?_
      refine v_iload dX5_settle_93 0 rfl ?_
      refine v_callV (M' := mX5_heading) (n := 1) (As := [_]) (ci := 3) (r := (RX5, TX5, 10)) gX5_settle_X5_heading rfl (by decide +kernel) ⟨(Nat.le_of_ble_eq_true rfl), (Nat.le_of_ble_eq_true rfl)⟩ rfl rfl dX5_settle_95 rfl ⟨(Nat.le_of_ble_eq_true rfl), (Nat.le_of_ble_eq_true rfl)⟩ (Nat.le_of_ble_eq_true rfl) (by first | with_reducible assumption | exact (hfr _ (by omega)).trans hp) rfl (c_heading G _ _ a n _ _ _ _ _ fx fy ((hfr _ (by omega)).trans hp) ((hfr _ (by omega)).trans hx) ((hfr _ (by omega)).trans hy) hn i (by omega)) (fun v h1 z1 hq => ?_)
      obtain ⟨rfl, rfl, rfl⟩ := hq
      refine v_iload_n dX5_settle_98 rfl 1 rfl ?_
      refine v_if_eq (tgt := 106) dX5_settle_99 (by decide) (fun c_99 => ?_) (fun c_99 => ?_)
      · refine v_iconst (v := 1) dX5_settle_106 (by decide) ?_
        refine v_iadd dX5_settle_107 ?_
        refine v_iconst (v := 3) dX5_settle_108 (by decide) ?_
        refine v_iand dX5_settle_109 ?_
        refine v_iast dX5_settle_110 (by first | with_reducible assumption | exact (hfr _ (by omega)).trans hp) (vp_in_nI (by omega) (by omega)) ?_
        refine v_iinc (j := 0) (L' := [(4, _), (3, _), (0, _)]) (v := nI (i + 1)) dX5_settle_111 rfl (nI_1 _) (Nat.le_of_ble_eq_true rfl) rfl ?_
        refine v_goto (tgt := 77) dX5_settle_114 (by decide) ?_
        refine v_sub (L' := [(4, _), (3, _), (0, _)]) [0, 1, 2] rfl ?_
        have ecl : (nI i).toNatClampNeg = i := nI_clamp (by omega)
        rw [ecl]
        refine ih (i + 1) _ _ (by omega) sv_us (fun j hj2 => ?_) (fun w q => (sv_un q).trans (hfr w q))
        by_cases e : j = i
        · rw [e]
          simp only [upd, if_true]
          first
          | (rw [gm_face, if_neg (by intro q; rw [if_pos q] at c_99; exact absurd c_99 (by decide))])
          | (rw [gm_face, if_pos (sv_ifn c_99)])
        · simp only [upd, if_neg e]; exact hj j (by omega)
      · refine v_iconst (v := 3) dX5_settle_102 (by decide) ?_
        refine v_goto (tgt := 107) dX5_settle_103 (by decide) ?_
        refine v_iadd dX5_settle_107 ?_
        refine v_iconst (v := 3) dX5_settle_108 (by decide) ?_
        refine v_iand dX5_settle_109 ?_
        refine v_iast dX5_settle_110 (by first | with_reducible assumption | exact (hfr _ (by omega)).trans hp) (vp_in_nI (by omega) (by omega)) ?_
        refine v_iinc (j := 0) (L' := [(4, _), (3, _), (0, _)]) (v := nI (i + 1)) dX5_settle_111 rfl (nI_1 _) (Nat.le_of_ble_eq_true rfl) rfl ?_
        refine v_goto (tgt := 77) dX5_settle_114 (by decide) ?_
        refine v_sub (L' := [(4, _), (3, _), (0, _)]) [0, 1, 2] rfl ?_
        have ecl : (nI i).toNatClampNeg = i := nI_clamp (by omega)
        rw [ecl]
        refine ih (i + 1) _ _ (by omega) sv_us (fun j hj2 => ?_) (fun w q => (sv_un q).trans (hfr w q))
        by_cases e : j = i
        · rw [e]
          simp only [upd, if_true]
          first
          | (rw [gm_face, if_neg (by intro q; rw [if_pos q] at c_99; exact absurd c_99 (by decide))])
          | (rw [gm_face, if_pos (sv_ifn c_99)])
        · simp only [upd, if_neg e]; exact hj j (by omega)

theorem gm_bef_aft {n i : Nat} (h : i < n) : gm_bef n (gm_aft n i) = i := by
  unfold gm_aft
  by_cases q : i + 1 < n
  · rw [if_pos q, gm_bef, if_neg (by omega)]; omega
  · rw [if_neg q, gm_bef, if_pos rfl]; omega
theorem gm_aft_bef {n i : Nat} (h : i < n) : gm_aft n (gm_bef n i) = i ∧ gm_bef n i < n := by
  unfold gm_bef
  by_cases q : i = 0
  · rw [if_pos q, gm_aft, if_neg (by omega)]; omega
  · rw [if_neg q, gm_aft, if_pos (by omega)]; omega
theorem gm_aft_inj {n i j : Nat} (hi : i < n) (hj : j < n) (h : gm_aft n i = gm_aft n j) : i = j := by
  have := congrArg (gm_bef n) h
  rw [gm_bef_aft hi, gm_bef_aft hj] at this
  exact this
theorem go_e {n i : Nat} {X Y : Nat → Int32} (h : i < n) : gm_outer n X Y (gm_aft n i) = (if decide ((gm_head n X Y (gm_aft n i) - gm_head n X Y i) &&& 3 = 1) = gm_left n X Y then (if gm_left n X Y then gm_face n X Y i else gm_face n X Y (gm_aft n i)) else -1) := by
  unfold gm_outer
  rw [gm_bef_aft h]
theorem go_1 {n i : Nat} {X Y : Nat → Int32} (h : i < n) (hL : gm_left n X Y = true) (hT : (gm_head n X Y (gm_aft n i) - gm_head n X Y i) &&& 3 = 1) : gm_face n X Y i = gm_outer n X Y (gm_aft n i) := by
  rw [go_e h, hL, decide_eq_true hT, if_pos rfl, if_pos rfl]
theorem go_2 {n i : Nat} {X Y : Nat → Int32} (h : i < n) (hL : gm_left n X Y = true) (hT : ¬ (gm_head n X Y (gm_aft n i) - gm_head n X Y i) &&& 3 = 1) : -1 = gm_outer n X Y (gm_aft n i) := by
  rw [go_e h, hL, decide_eq_false hT, if_neg (by decide)]
theorem go_3 {n i : Nat} {X Y : Nat → Int32} (h : i < n) (hL : ¬ gm_left n X Y = true) (hT : (gm_head n X Y (gm_aft n i) - gm_head n X Y i) &&& 3 = 1) : -1 = gm_outer n X Y (gm_aft n i) := by
  rw [go_e h, Bool.eq_false_iff.mpr hL, decide_eq_true hT, if_neg (by decide)]
theorem go_4 {n i : Nat} {X Y : Nat → Int32} (h : i < n) (hL : ¬ gm_left n X Y = true) (hT : ¬ (gm_head n X Y (gm_aft n i) - gm_head n X Y i) &&& 3 = 1) : gm_face n X Y (gm_aft n i) = gm_outer n X Y (gm_aft n i) := by
  rw [go_e h, Bool.eq_false_iff.mpr hL, decide_eq_false hT, if_pos rfl, if_neg (by decide)]
set_option maxHeartbeats 4000000 in
set_option maxRecDepth 100000 in
theorem l_settle3 (G : sv_G) (P : sv_P) (h : sv_h) (z a n : Nat) (hm ly vo rt ar : Int32) (fx fy : Nat → Int32) (hp : h a = some (.inr (3, [.int hm, .int ly, .ref (a + 1), .ref (a + 2), .int (nI n), .int vo, .int rt, .int ar, .ref (a + 3), .ref (a + 4)]))) (hx : ab_I G h (a + 1) 16 fx) (hy : ab_I G h (a + 2) 16 fy) (hn : n ≤ 16) (ff : Nat → Int32) (hff : ab_I G h (a + 3) 16 ff) (hfj : ∀ j, j < n → ff j = gm_face n fx fy j) (hk : ∀ (hi : sv_h) (fo : Nat → Int32) (w4 : Int32), ab_I G hi (a + 4) 16 fo → (∀ j, j < n → fo (gm_aft n j) = gm_outer n fx fy (gm_aft n j)) → (∀ w, w ≠ a + 4 → hi w = h w) → V G mX5_settle P 211 [(4, .int w4), (3, .int (if gm_left n fx fy then 1 else 0 : Int32)), (0, .ref a)] [] hi z 0 0) : ∀ (c i : Nat) (hi : sv_h) (fo : Nat → Int32), i + c = n → ab_I G hi (a + 4) 16 fo → (∀ j, j < i → fo (gm_aft n j) = gm_outer n fx fy (gm_aft n j)) → (∀ w, w ≠ a + 4 → hi w = h w) → V G mX5_settle P 120 [(4, .int (nI i)), (3, .int (if gm_left n fx fy then 1 else 0 : Int32)), (0, .ref a)] [] hi z 0 0 := by
  intro c
  induction c with
  | zero =>
    intro i hi fo hic hf hj hfr
    refine v_iload dX5_settle_120 0 rfl ?_
    refine v_aload_n dX5_settle_122 rfl 2 rfl ?_
    refine v_getf 4 (ci := 3) (C := RX5) (T := TX5) (N := 10) rfl iwX5_settle_X5 (Nat.le_of_ble_eq_true rfl) (by decide +kernel) dX5_settle_123 (by first | with_reducible assumption | exact (hfr _ (by omega)).trans hp | exact (hfr _ (by omega)).trans hff) rfl ?_
    refine v_icmp_ge (tgt := 211) dX5_settle_126 (by decide) (fun c_126 => ?_) (fun c_126 => ?_)
    · (obtain rfl : i = n := by omega)
      exact hk _ fo _ hf hj hfr
    · exact absurd (show nI n ≤ nI i from nI_le (by omega) (by omega)) c_126
  | succ c ih =>
    intro i hi fo hic hf hj hfr
    refine v_iload dX5_settle_120 0 rfl ?_
    refine v_aload_n dX5_settle_122 rfl 2 rfl ?_
    refine v_getf 4 (ci := 3) (C := RX5) (T := TX5) (N := 10) rfl iwX5_settle_X5 (Nat.le_of_ble_eq_true rfl) (by decide +kernel) dX5_settle_123 (by first | with_reducible assumption | exact (hfr _ (by omega)).trans hp | exact (hfr _ (by omega)).trans hff) rfl ?_
    refine v_icmp_ge (tgt := 211) dX5_settle_126 (by decide) (fun c_126 => ?_) (fun c_126 => ?_)
    · exact absurd c_126 (nI_ge (by omega) (by omega))
    · refine v_aload_n dX5_settle_129 rfl 2 rfl ?_
      refine v_iload dX5_settle_130 0 rfl ?_
      refine v_callV (M' := mX5_after) (n := 1) (As := [_]) (ci := 3) (r := (RX5, TX5, 10)) gX5_settle_X5_after rfl (by decide +kernel) ⟨(Nat.le_of_ble_eq_true rfl), (Nat.le_of_ble_eq_true rfl)⟩ rfl rfl dX5_settle_132 rfl ⟨(Nat.le_of_ble_eq_true rfl), (Nat.le_of_ble_eq_true rfl)⟩ (Nat.le_of_ble_eq_true rfl) (by first | with_reducible assumption | exact (hfr _ (by omega)).trans hp | exact (hfr _ (by omega)).trans hff) rfl (c_after G _ _ a n _ _ _ _ _ fx fy ((hfr _ (by omega)).trans hp) ((hfr _ (by omega)).trans hx) ((hfr _ (by omega)).trans hy) hn i (by omega)) (fun v h1 z1 hq => ?_)
      obtain ⟨rfl, rfl, rfl⟩ := hq
      refine v_istore (L' := [(5, _), (4, _), (3, _), (0, _)]) dX5_settle_135 (Nat.le_of_ble_eq_true rfl) rfl ?_
      refine v_aload_n dX5_settle_137 rfl 3 rfl ?_
      refine v_iload dX5_settle_138 0 rfl ?_
      refine v_callV (M' := mX5_heading) (n := 1) (As := [_]) (ci := 3) (r := (RX5, TX5, 10)) gX5_settle_X5_heading rfl (by decide +kernel) ⟨(Nat.le_of_ble_eq_true rfl), (Nat.le_of_ble_eq_true rfl)⟩ rfl rfl dX5_settle_140 rfl ⟨(Nat.le_of_ble_eq_true rfl), (Nat.le_of_ble_eq_true rfl)⟩ (Nat.le_of_ble_eq_true rfl) (by first | with_reducible assumption | exact (hfr _ (by omega)).trans hp | exact (hfr _ (by omega)).trans hff) rfl (c_heading G _ _ a n _ _ _ _ _ fx fy ((hfr _ (by omega)).trans hp) ((hfr _ (by omega)).trans hx) ((hfr _ (by omega)).trans hy) hn (gm_aft n i) (gm_aft_lt (by omega))) (fun v h1 z1 hq => ?_)
      obtain ⟨rfl, rfl, rfl⟩ := hq
      refine v_aload_n dX5_settle_143 rfl 3 rfl ?_
      refine v_iload dX5_settle_144 1 rfl ?_
      refine v_callV (M' := mX5_heading) (n := 1) (As := [_]) (ci := 3) (r := (RX5, TX5, 10)) gX5_settle_X5_heading rfl (by decide +kernel) ⟨(Nat.le_of_ble_eq_true rfl), (Nat.le_of_ble_eq_true rfl)⟩ rfl rfl dX5_settle_146 rfl ⟨(Nat.le_of_ble_eq_true rfl), (Nat.le_of_ble_eq_true rfl)⟩ (Nat.le_of_ble_eq_true rfl) (by first | with_reducible assumption | exact (hfr _ (by omega)).trans hp | exact (hfr _ (by omega)).trans hff) rfl (c_heading G _ _ a n _ _ _ _ _ fx fy ((hfr _ (by omega)).trans hp) ((hfr _ (by omega)).trans hx) ((hfr _ (by omega)).trans hy) hn i (by omega)) (fun v h1 z1 hq => ?_)
      obtain ⟨rfl, rfl, rfl⟩ := hq
      refine v_isub dX5_settle_149 ?_
      refine v_iconst (v := 3) dX5_settle_150 (by decide) ?_
      refine v_iand dX5_settle_151 ?_
      refine v_iconst (v := 1) dX5_settle_152 (by decide) ?_
      refine v_icmp_ne (tgt := 160) dX5_settle_153 (by decide) (fun c_153 => ?_) (fun c_153 => ?_)
      · refine v_iconst (v := 0) dX5_settle_160 (by decide) ?_
        refine v_istore (L' := [(6, _), (5, _), (4, _), (3, _), (0, _)]) dX5_settle_161 (Nat.le_of_ble_eq_true rfl) rfl ?_
        refine v_iload_n dX5_settle_163 rfl 3 rfl ?_
        refine v_if_eq (tgt := 177) dX5_settle_164 (by decide) (fun c_164 => ?_) (fun c_164 => ?_)
        · refine v_aload_n dX5_settle_177 rfl 4 rfl ?_
          refine v_getf 8 (ci := 3) (C := RX5) (T := TX5) (N := 10) rfl iwX5_settle_X5 (Nat.le_of_ble_eq_true rfl) (by decide +kernel) dX5_settle_178 (by first | with_reducible assumption | exact (hfr _ (by omega)).trans hp | exact (hfr _ (by omega)).trans hff) rfl ?_
          refine v_iload dX5_settle_181 1 rfl ?_
          refine v_ialdS (v := gm_face n fx fy (gm_aft n i)) dX5_settle_183 (by first | with_reducible assumption | exact (hfr _ (by omega)).trans hp | exact (hfr _ (by omega)).trans hff) (vp_in_nI (by have q9 := gm_aft_lt (n := n) (i := i) (by omega); omega) (by omega)) (by rw [nI_clamp (by have q9 := gm_aft_lt (n := n) (i := i) (by omega); omega)]; exact hfj _ (gm_aft_lt (by omega))) ?_
          refine v_istore (L' := [(7, _), (6, _), (5, _), (4, _), (3, _), (0, _)]) dX5_settle_184 (Nat.le_of_ble_eq_true rfl) rfl ?_
          refine v_aload_n dX5_settle_186 rfl 5 rfl ?_
          refine v_getf 9 (ci := 3) (C := RX5) (T := TX5) (N := 10) rfl iwX5_settle_X5 (Nat.le_of_ble_eq_true rfl) (by decide +kernel) dX5_settle_187 (by first | with_reducible assumption | exact (hfr _ (by omega)).trans hp | exact (hfr _ (by omega)).trans hff) rfl ?_
          refine v_iload dX5_settle_190 2 rfl ?_
          refine v_iload dX5_settle_192 1 rfl ?_
          refine v_iload_n dX5_settle_194 rfl 4 rfl ?_
          refine v_icmp_ne (tgt := 203) dX5_settle_195 (by decide) (fun c_195 => ?_) (fun c_195 => ?_)
          · refine v_iconst (v := (-1)) dX5_settle_203 (by decide) ?_
            refine v_iast dX5_settle_204 (by first | with_reducible assumption | exact (hfr _ (by omega)).trans hp | exact (hfr _ (by omega)).trans hff) (vp_in_nI (by have q9 := gm_aft_lt (n := n) (i := i) (by omega); omega) (by omega)) ?_
            refine v_iinc (j := 3) (L' := [(4, _), (7, _), (6, _), (5, _), (3, _), (0, _)]) (v := nI (i + 1)) dX5_settle_205 rfl (nI_1 _) (Nat.le_of_ble_eq_true rfl) rfl ?_
            refine v_goto (tgt := 120) dX5_settle_208 (by decide) ?_
            refine v_sub (L' := [(4, _), (3, _), (0, _)]) [0, 4, 5] rfl ?_
            have hin : i < n := by omega
            have hal := gm_aft_lt hin
            have ecl : (nI (gm_aft n i)).toNatClampNeg = gm_aft n i := nI_clamp (by omega)
            rw [ecl]
            refine ih (i + 1) _ _ (by omega) sv_us (fun j hj2 => ?_) (fun w q => (sv_un q).trans (hfr w q))
            by_cases e : j = i
            · rw [e]
              simp only [upd, if_true]
              first
              | with_reducible exact go_1 hin (sv_ifn c_164) c_153
              | with_reducible exact go_2 hin (sv_ifn c_164) c_153
              | with_reducible exact go_3 hin (sv_ift c_164) c_153
              | with_reducible exact go_4 hin (sv_ift c_164) c_153
              | exact absurd (by rw [if_pos (sv_ifn c_164)]) c_195
              | exact absurd (by rw [if_neg (sv_ift c_164)]) c_195
              | (rw [if_pos (sv_ifn c_164)] at c_195; exact absurd c_195 (by decide))
              | (rw [if_neg (sv_ift c_164)] at c_195; exact absurd c_195 (by decide))
            · have : gm_aft n j ≠ gm_aft n i := fun q => e (gm_aft_inj (by omega) hin q)
              simp only [upd, if_neg this]; exact hj j (by omega)
          · refine v_iload dX5_settle_198 0 rfl ?_
            refine v_goto (tgt := 204) dX5_settle_200 (by decide) ?_
            refine v_iast dX5_settle_204 (by first | with_reducible assumption | exact (hfr _ (by omega)).trans hp | exact (hfr _ (by omega)).trans hff) (vp_in_nI (by have q9 := gm_aft_lt (n := n) (i := i) (by omega); omega) (by omega)) ?_
            refine v_iinc (j := 3) (L' := [(4, _), (7, _), (6, _), (5, _), (3, _), (0, _)]) (v := nI (i + 1)) dX5_settle_205 rfl (nI_1 _) (Nat.le_of_ble_eq_true rfl) rfl ?_
            refine v_goto (tgt := 120) dX5_settle_208 (by decide) ?_
            refine v_sub (L' := [(4, _), (3, _), (0, _)]) [0, 4, 5] rfl ?_
            have hin : i < n := by omega
            have hal := gm_aft_lt hin
            have ecl : (nI (gm_aft n i)).toNatClampNeg = gm_aft n i := nI_clamp (by omega)
            rw [ecl]
            refine ih (i + 1) _ _ (by omega) sv_us (fun j hj2 => ?_) (fun w q => (sv_un q).trans (hfr w q))
            by_cases e : j = i
            · rw [e]
              simp only [upd, if_true]
              first
              | with_reducible exact go_1 hin (sv_ifn c_164) c_153
              | with_reducible exact go_2 hin (sv_ifn c_164) c_153
              | with_reducible exact go_3 hin (sv_ift c_164) c_153
              | with_reducible exact go_4 hin (sv_ift c_164) c_153
              | exact absurd (by rw [if_pos (sv_ifn c_164)]) c_195
              | exact absurd (by rw [if_neg (sv_ift c_164)]) c_195
              | (rw [if_pos (sv_ifn c_164)] at c_195; exact absurd c_195 (by decide))
              | (rw [if_neg (sv_ift c_164)] at c_195; exact absurd c_195 (by decide))
            · have : gm_aft n j ≠ gm_aft n i := fun q => e (gm_aft_inj (by omega) hin q)
              simp only [upd, if_neg this]; exact hj j (by omega)
        · refine v_aload_n dX5_settle_167 rfl 4 rfl ?_
          refine v_getf 8 (ci := 3) (C := RX5) (T := TX5) (N := 10) rfl iwX5_settle_X5 (Nat.le_of_ble_eq_true rfl) (by decide +kernel) dX5_settle_168 (by first | with_reducible assumption | exact (hfr _ (by omega)).trans hp | exact (hfr _ (by omega)).trans hff) rfl ?_
          refine v_iload dX5_settle_171 2 rfl ?_
          refine v_ialdS (v := gm_face n fx fy i) dX5_settle_173 (by first | with_reducible assumption | exact (hfr _ (by omega)).trans hp | exact (hfr _ (by omega)).trans hff) (vp_in_nI (by omega) (by omega)) (by rw [nI_clamp (by omega)]; exact hfj i (by omega)) ?_
          refine v_goto (tgt := 184) dX5_settle_174 (by decide) ?_
          refine v_istore (L' := [(7, _), (6, _), (5, _), (4, _), (3, _), (0, _)]) dX5_settle_184 (Nat.le_of_ble_eq_true rfl) rfl ?_
          refine v_aload_n dX5_settle_186 rfl 5 rfl ?_
          refine v_getf 9 (ci := 3) (C := RX5) (T := TX5) (N := 10) rfl iwX5_settle_X5 (Nat.le_of_ble_eq_true rfl) (by decide +kernel) dX5_settle_187 (by first | with_reducible assumption | exact (hfr _ (by omega)).trans hp | exact (hfr _ (by omega)).trans hff) rfl ?_
          refine v_iload dX5_settle_190 2 rfl ?_
          refine v_iload dX5_settle_192 1 rfl ?_
          refine v_iload_n dX5_settle_194 rfl 4 rfl ?_
          refine v_icmp_ne (tgt := 203) dX5_settle_195 (by decide) (fun c_195 => ?_) (fun c_195 => ?_)
          · refine v_iconst (v := (-1)) dX5_settle_203 (by decide) ?_
            refine v_iast dX5_settle_204 (by first | with_reducible assumption | exact (hfr _ (by omega)).trans hp | exact (hfr _ (by omega)).trans hff) (vp_in_nI (by have q9 := gm_aft_lt (n := n) (i := i) (by omega); omega) (by omega)) ?_
            refine v_iinc (j := 3) (L' := [(4, _), (7, _), (6, _), (5, _), (3, _), (0, _)]) (v := nI (i + 1)) dX5_settle_205 rfl (nI_1 _) (Nat.le_of_ble_eq_true rfl) rfl ?_
            refine v_goto (tgt := 120) dX5_settle_208 (by decide) ?_
            refine v_sub (L' := [(4, _), (3, _), (0, _)]) [0, 4, 5] rfl ?_
            have hin : i < n := by omega
            have hal := gm_aft_lt hin
            have ecl : (nI (gm_aft n i)).toNatClampNeg = gm_aft n i := nI_clamp (by omega)
            rw [ecl]
            refine ih (i + 1) _ _ (by omega) sv_us (fun j hj2 => ?_) (fun w q => (sv_un q).trans (hfr w q))
            by_cases e : j = i
            · rw [e]
              simp only [upd, if_true]
              first
              | with_reducible exact go_1 hin (sv_ifn c_164) c_153
              | with_reducible exact go_2 hin (sv_ifn c_164) c_153
              | with_reducible exact go_3 hin (sv_ift c_164) c_153
              | with_reducible exact go_4 hin (sv_ift c_164) c_153
              | exact absurd (by rw [if_pos (sv_ifn c_164)]) c_195
              | exact absurd (by rw [if_neg (sv_ift c_164)]) c_195
              | (rw [if_pos (sv_ifn c_164)] at c_195; exact absurd c_195 (by decide))
              | (rw [if_neg (sv_ift c_164)] at c_195; exact absurd c_195 (by decide))
            · have : gm_aft n j ≠ gm_aft n i := fun q => e (gm_aft_inj (by omega) hin q)
              simp only [upd, if_neg this]; exact hj j (by omega)
          · refine v_iload dX5_settle_198 0 rfl ?_
            refine v_goto (tgt := 204) dX5_settle_200 (by decide) ?_
            refine v_iast dX5_settle_204 (by first | with_reducible assumption | exact (hfr _ (by omega)).trans hp | exact (hfr _ (by omega)).trans hff) (vp_in_nI (by have q9 := gm_aft_lt (n := n) (i := i) (by omega); omega) (by omega)) ?_
            refine v_iinc (j := 3) (L' := [(4, _), (7, _), (6, _), (5, _), (3, _), (0, _)]) (v := nI (i + 1)) dX5_settle_205 rfl (nI_1 _) (Nat.le_of_ble_eq_true rfl) rfl ?_
            refine v_goto (tgt := 120) dX5_settle_208 (by decide) ?_
            refine v_sub (L' := [(4, _), (3, _), (0, _)]) [0, 4, 5] rfl ?_
            have hin : i < n := by omega
            have hal := gm_aft_lt hin
            have ecl : (nI (gm_aft n i)).toNatClampNeg = gm_aft n i := nI_clamp (by omega)
            rw [ecl]
            refine ih (i + 1) _ _ (by omega) sv_us (fun j hj2 => ?_) (fun w q => (sv_un q).trans (hfr w q))
            by_cases e : j = i
            · rw [e]
              simp only [upd, if_true]
              first
              | with_reducible exact go_1 hin (sv_ifn c_164) c_153
              | with_reducible exact go_2 hin (sv_ifn c_164) c_153
              | with_reducible exact go_3 hin (sv_ift c_164) c_153
              | with_reducible exact go_4 hin (sv_ift c_164) c_153
              | exact absurd (by rw [if_pos (sv_ifn c_164)]) c_195
              | exact absurd (by rw [if_neg (sv_ift c_164)]) c_195
              | (rw [if_pos (sv_ifn c_164)] at c_195; exact absurd c_195 (by decide))
              | (rw [if_neg (sv_ift c_164)] at c_195; exact absurd c_195 (by decide))
            · have : gm_aft n j ≠ gm_aft n i := fun q => e (gm_aft_inj (by omega) hin q)
              simp only [upd, if_neg this]; exact hj j (by omega)
      · refine v_iconst (v := 1) dX5_settle_156 (by decide) ?_
        refine v_goto (tgt := 161) dX5_settle_157 (by decide) ?_
        refine v_istore (L' := [(6, _), (5, _), (4, _), (3, _), (0, _)]) dX5_settle_161 (Nat.le_of_ble_eq_true rfl) rfl ?_
        refine v_iload_n dX5_settle_163 rfl 3 rfl ?_
        refine v_if_eq (tgt := 177) dX5_settle_164 (by decide) (fun c_164 => ?_) (fun c_164 => ?_)
        · refine v_aload_n dX5_settle_177 rfl 4 rfl ?_
          refine v_getf 8 (ci := 3) (C := RX5) (T := TX5) (N := 10) rfl iwX5_settle_X5 (Nat.le_of_ble_eq_true rfl) (by decide +kernel) dX5_settle_178 (by first | with_reducible assumption | exact (hfr _ (by omega)).trans hp | exact (hfr _ (by omega)).trans hff) rfl ?_
          refine v_iload dX5_settle_181 1 rfl ?_
          refine v_ialdS (v := gm_face n fx fy (gm_aft n i)) dX5_settle_183 (by first | with_reducible assumption | exact (hfr _ (by omega)).trans hp | exact (hfr _ (by omega)).trans hff) (vp_in_nI (by have q9 := gm_aft_lt (n := n) (i := i) (by omega); omega) (by omega)) (by rw [nI_clamp (by have q9 := gm_aft_lt (n := n) (i := i) (by omega); omega)]; exact hfj _ (gm_aft_lt (by omega))) ?_
          refine v_istore (L' := [(7, _), (6, _), (5, _), (4, _), (3, _), (0, _)]) dX5_settle_184 (Nat.le_of_ble_eq_true rfl) rfl ?_
          refine v_aload_n dX5_settle_186 rfl 5 rfl ?_
          refine v_getf 9 (ci := 3) (C := RX5) (T := TX5) (N := 10) rfl iwX5_settle_X5 (Nat.le_of_ble_eq_true rfl) (by decide +kernel) dX5_settle_187 (by first | with_reducible assumption | exact (hfr _ (by omega)).trans hp | exact (hfr _ (by omega)).trans hff) rfl ?_
          refine v_iload dX5_settle_190 2 rfl ?_
          refine v_iload dX5_settle_192 1 rfl ?_
          refine v_iload_n dX5_settle_194 rfl 4 rfl ?_
          refine v_icmp_ne (tgt := 203) dX5_settle_195 (by decide) (fun c_195 => ?_) (fun c_195 => ?_)
          · refine v_iconst (v := (-1)) dX5_settle_203 (by decide) ?_
            refine v_iast dX5_settle_204 (by first | with_reducible assumption | exact (hfr _ (by omega)).trans hp | exact (hfr _ (by omega)).trans hff) (vp_in_nI (by have q9 := gm_aft_lt (n := n) (i := i) (by omega); omega) (by omega)) ?_
            refine v_iinc (j := 3) (L' := [(4, _), (7, _), (6, _), (5, _), (3, _), (0, _)]) (v := nI (i + 1)) dX5_settle_205 rfl (nI_1 _) (Nat.le_of_ble_eq_true rfl) rfl ?_
            refine v_goto (tgt := 120) dX5_settle_208 (by decide) ?_
            refine v_sub (L' := [(4, _), (3, _), (0, _)]) [0, 4, 5] rfl ?_
            have hin : i < n := by omega
            have hal := gm_aft_lt hin
            have ecl : (nI (gm_aft n i)).toNatClampNeg = gm_aft n i := nI_clamp (by omega)
            rw [ecl]
            refine ih (i + 1) _ _ (by omega) sv_us (fun j hj2 => ?_) (fun w q => (sv_un q).trans (hfr w q))
            by_cases e : j = i
            · rw [e]
              simp only [upd, if_true]
              first
              | with_reducible exact go_1 hin (sv_ifn c_164) c_153
              | with_reducible exact go_2 hin (sv_ifn c_164) c_153
              | with_reducible exact go_3 hin (sv_ift c_164) c_153
              | with_reducible exact go_4 hin (sv_ift c_164) c_153
              | exact absurd (by rw [if_pos (sv_ifn c_164)]) c_195
              | exact absurd (by rw [if_neg (sv_ift c_164)]) c_195
              | (rw [if_pos (sv_ifn c_164)] at c_195; exact absurd c_195 (by decide))
              | (rw [if_neg (sv_ift c_164)] at c_195; exact absurd c_195 (by decide))
            · have : gm_aft n j ≠ gm_aft n i := fun q => e (gm_aft_inj (by omega) hin q)
              simp only [upd, if_neg this]; exact hj j (by omega)
          · refine v_iload dX5_settle_198 0 rfl ?_
            refine v_goto (tgt := 204) dX5_settle_200 (by decide) ?_
            refine v_iast dX5_settle_204 (by first | with_reducible assumption | exact (hfr _ (by omega)).trans hp | exact (hfr _ (by omega)).trans hff) (vp_in_nI (by have q9 := gm_aft_lt (n := n) (i := i) (by omega); omega) (by omega)) ?_
            refine v_iinc (j := 3) (L' := [(4, _), (7, _), (6, _), (5, _), (3, _), (0, _)]) (v := nI (i + 1)) dX5_settle_205 rfl (nI_1 _) (Nat.le_of_ble_eq_true rfl) rfl ?_
            refine v_goto (tgt := 120) dX5_settle_208 (by decide) ?_
            refine v_sub (L' := [(4, _), (3, _), (0, _)]) [0, 4, 5] rfl ?_
            have hin : i < n := by omega
            have hal := gm_aft_lt hin
            have ecl : (nI (gm_aft n i)).toNatClampNeg = gm_aft n i := nI_clamp (by omega)
            rw [ecl]
            refine ih (i + 1) _ _ (by omega) sv_us (fun j hj2 => ?_) (fun w q => (sv_un q).trans (hfr w q))
            by_cases e : j = i
            · rw [e]
              simp only [upd, if_true]
              first
              | with_reducible exact go_1 hin (sv_ifn c_164) c_153
              | with_reducible exact go_2 hin (sv_ifn c_164) c_153
              | with_reducible exact go_3 hin (sv_ift c_164) c_153
              | with_reducible exact go_4 hin (sv_ift c_164) c_153
              | exact absurd (by rw [if_pos (sv_ifn c_164)]) c_195
              | exact absurd (by rw [if_neg (sv_ift c_164)]) c_195
              | (rw [if_pos (sv_ifn c_164)] at c_195; exact absurd c_195 (by decide))
              | (rw [if_neg (sv_ift c_164)] at c_195; exact absurd c_195 (by decide))
            · have : gm_aft n j ≠ gm_aft n i := fun q => e (gm_aft_inj (by omega) hin q)
              simp only [upd, if_neg this]; exact hj j (by omega)
        · refine v_aload_n dX5_settle_167 rfl 4 rfl ?_
          refine v_getf 8 (ci := 3) (C := RX5) (T := TX5) (N := 10) rfl iwX5_settle_X5 (Nat.le_of_ble_eq_true rfl) (by decide +kernel) dX5_settle_168 (by first | with_reducible assumption | exact (hfr _ (by omega)).trans hp | exact (hfr _ (by omega)).trans hff) rfl ?_
          refine v_iload dX5_settle_171 2 rfl ?_
          refine v_ialdS (v := gm_face n fx fy i) dX5_settle_173 (by first | with_reducible assumption | exact (hfr _ (by omega)).trans hp | exact (hfr _ (by omega)).trans hff) (vp_in_nI (by omega) (by omega)) (by rw [nI_clamp (by omega)]; exact hfj i (by omega)) ?_
          refine v_goto (tgt := 184) dX5_settle_174 (by decide) ?_
          refine v_istore (L' := [(7, _), (6, _), (5, _), (4, _), (3, _), (0, _)]) dX5_settle_184 (Nat.le_of_ble_eq_true rfl) rfl ?_
          refine v_aload_n dX5_settle_186 rfl 5 rfl ?_
          refine v_getf 9 (ci := 3) (C := RX5) (T := TX5) (N := 10) rfl iwX5_settle_X5 (Nat.le_of_ble_eq_true rfl) (by decide +kernel) dX5_settle_187 (by first | with_reducible assumption | exact (hfr _ (by omega)).trans hp | exact (hfr _ (by omega)).trans hff) rfl ?_
          refine v_iload dX5_settle_190 2 rfl ?_
          refine v_iload dX5_settle_192 1 rfl ?_
          refine v_iload_n dX5_settle_194 rfl 4 rfl ?_
          refine v_icmp_ne (tgt := 203) dX5_settle_195 (by decide) (fun c_195 => ?_) (fun c_195 => ?_)
          · refine v_iconst (v := (-1)) dX5_settle_203 (by decide) ?_
            refine v_iast dX5_settle_204 (by first | with_reducible assumption | exact (hfr _ (by omega)).trans hp | exact (hfr _ (by omega)).trans hff) (vp_in_nI (by have q9 := gm_aft_lt (n := n) (i := i) (by omega); omega) (by omega)) ?_
            refine v_iinc (j := 3) (L' := [(4, _), (7, _), (6, _), (5, _), (3, _), (0, _)]) (v := nI (i + 1)) dX5_settle_205 rfl (nI_1 _) (Nat.le_of_ble_eq_true rfl) rfl ?_
            refine v_goto (tgt := 120) dX5_settle_208 (by decide) ?_
            refine v_sub (L' := [(4, _), (3, _), (0, _)]) [0, 4, 5] rfl ?_
            have hin : i < n := by omega
            have hal := gm_aft_lt hin
            have ecl : (nI (gm_aft n i)).toNatClampNeg = gm_aft n i := nI_clamp (by omega)
            rw [ecl]
            refine ih (i + 1) _ _ (by omega) sv_us (fun j hj2 => ?_) (fun w q => (sv_un q).trans (hfr w q))
            by_cases e : j = i
            · rw [e]
              simp only [upd, if_true]
              first
              | with_reducible exact go_1 hin (sv_ifn c_164) c_153
              | with_reducible exact go_2 hin (sv_ifn c_164) c_153
              | with_reducible exact go_3 hin (sv_ift c_164) c_153
              | with_reducible exact go_4 hin (sv_ift c_164) c_153
              | exact absurd (by rw [if_pos (sv_ifn c_164)]) c_195
              | exact absurd (by rw [if_neg (sv_ift c_164)]) c_195
              | (rw [if_pos (sv_ifn c_164)] at c_195; exact absurd c_195 (by decide))
              | (rw [if_neg (sv_ift c_164)] at c_195; exact absurd c_195 (by decide))
            · have : gm_aft n j ≠ gm_aft n i := fun q => e (gm_aft_inj (by omega) hin q)
              simp only [upd, if_neg this]; exact hj j (by omega)
          · refine v_iload dX5_settle_198 0 rfl ?_
            refine v_goto (tgt := 204) dX5_settle_200 (by decide) ?_
            refine v_iast dX5_settle_204 (by first | with_reducible assumption | exact (hfr _ (by omega)).trans hp | exact (hfr _ (by omega)).trans hff) (vp_in_nI (by have q9 := gm_aft_lt (n := n) (i := i) (by omega); omega) (by omega)) ?_
            refine v_iinc (j := 3) (L' := [(4, _), (7, _), (6, _), (5, _), (3, _), (0, _)]) (v := nI (i + 1)) dX5_settle_205 rfl (nI_1 _) (Nat.le_of_ble_eq_true rfl) rfl ?_
            refine v_goto (tgt := 120) dX5_settle_208 (by decide) ?_
            refine v_sub (L' := [(4, _), (3, _), (0, _)]) [0, 4, 5] rfl ?_
            have hin : i < n := by omega
            have hal := gm_aft_lt hin
            have ecl : (nI (gm_aft n i)).toNatClampNeg = gm_aft n i := nI_clamp (by omega)
            rw [ecl]
            refine ih (i + 1) _ _ (by omega) sv_us (fun j hj2 => ?_) (fun w q => (sv_un q).trans (hfr w q))
            by_cases e : j = i
            · rw [e]
              simp only [upd, if_true]
              first
              | with_reducible exact go_1 hin (sv_ifn c_164) c_153
              | with_reducible exact go_2 hin (sv_ifn c_164) c_153
              | with_reducible exact go_3 hin (sv_ift c_164) c_153
              | with_reducible exact go_4 hin (sv_ift c_164) c_153
              | exact absurd (by rw [if_pos (sv_ifn c_164)]) c_195
              | exact absurd (by rw [if_neg (sv_ift c_164)]) c_195
              | (rw [if_pos (sv_ifn c_164)] at c_195; exact absurd c_195 (by decide))
              | (rw [if_neg (sv_ift c_164)] at c_195; exact absurd c_195 (by decide))
            · have : gm_aft n j ≠ gm_aft n i := fun q => e (gm_aft_inj (by omega) hin q)
              simp only [upd, if_neg this]; exact hj j (by omega)

theorem sv_lt_t {n : Nat} {X Y : Nat → Int32} (c : ¬ gm_sum n X Y n ≤ 0) : gm_left n X Y = true := decide_eq_true (Int64.not_le.mp c)
theorem sv_lt_f {n : Nat} {X Y : Nat → Int32} (c : gm_sum n X Y n ≤ 0) : ¬ gm_left n X Y = true := fun q => Int64.not_le.mpr (of_decide_eq_true q) c
theorem sv_ar_t {n : Nat} {X Y : Nat → Int32} (c : gm_left n X Y = true) : gm_area n X Y = (gm_sum n X Y n).toInt32 := by rw [gm_area, if_pos c]
theorem sv_ar_f {n : Nat} {X Y : Nat → Int32} (c : ¬ gm_left n X Y = true) : gm_area n X Y = (- gm_sum n X Y n).toInt32 := by rw [gm_area, if_neg c]
set_option maxHeartbeats 4000000 in
set_option maxRecDepth 100000 in
theorem t_settle (G : sv_G) (h : sv_h) (z a n : Nat) (hm ly vo rt ar : Int32) (fx fy : Nat → Int32) (hp : h a = some (.inr (3, [.int hm, .int ly, .ref (a + 1), .ref (a + 2), .int (nI n), .int vo, .int rt, .int ar, .ref (a + 3), .ref (a + 4)]))) (hx : ab_I G h (a + 1) 16 fx) (hy : ab_I G h (a + 2) 16 fy) (hn : n ≤ 16) (f3 f4 : Nat → Int32) (h3 : ab_I G h (a + 3) 16 f3) (h4 : ab_I G h (a + 4) 16 f4) : V G mX5_settle (sv_MQ G mX5_settle (fun v h1 z1 => v = none ∧ z1 = z ∧ h1 a = some (.inr (3, [.int hm, .int ly, .ref (a + 1), .ref (a + 2), .int (nI n), .int vo, .int rt, .int (gm_area n fx fy), .ref (a + 3), .ref (a + 4)])) ∧ (∃ ff fo, ab_I G h1 (a + 3) 16 ff ∧ ab_I G h1 (a + 4) 16 fo ∧ ∀ i, i < n → ff i = gm_face n fx fy i ∧ fo i = gm_outer n fx fy i) ∧ ∀ w, w ≠ a → w ≠ a + 3 → w ≠ a + 4 → h1 w = h w)) 77 [(4, .int 0), (3, .int (if gm_left n fx fy then 1 else 0 : Int32)), (0, .ref a)] [] (va_up h a (some (.inr (3, [.int hm, .int ly, .ref (a + 1), .ref (a + 2), .int (nI n), .int vo, .int rt, .int (gm_area n fx fy), .ref (a + 3), .ref (a + 4)])))) z 0 0 := by
  refine l_settle2 G _ _ z a n hm ly vo rt (gm_area n fx fy) fx fy sv_us ((sv_un (by omega)).trans hx) ((sv_un (by omega)).trans hy) hn (fun hi ff w4 j1 j2 j3 => ?_) n 0 _ f3 (by omega) ((sv_un (by omega)).trans h3) (fun j hj => absurd hj (Nat.not_lt_zero j)) (fun _ _ => rfl)
  refine v_iconst (v := 0) dX5_settle_117 (by decide) ?_
  refine v_istore (L' := [(4, _), (3, _), (0, _)]) dX5_settle_118 (Nat.le_of_ble_eq_true rfl) rfl ?_
  refine l_settle3 G _ hi z a n hm ly vo rt (gm_area n fx fy) fx fy ((j3 _ (by omega)).trans sv_us) ((j3 _ (by omega)).trans ((sv_un (by omega)).trans hx)) ((j3 _ (by omega)).trans ((sv_un (by omega)).trans hy)) hn ff j1 j2 (fun hi2 fo w5 k1 k2 k3 => ?_) n 0 hi f4 (by omega) ((j3 _ (by omega)).trans ((sv_un (by omega)).trans h4)) (fun j hj => absurd hj (Nat.not_lt_zero j)) (fun _ _ => rfl)
  exact v_ret rfl dX5_settle_211 (Nat.le_of_ble_eq_true rfl) (Nat.le_of_ble_eq_true rfl) ⟨rfl, rfl, (k3 _ (by omega)).trans ((j3 _ (by omega)).trans sv_us), ⟨ff, fo, (k3 _ (by omega)).trans j1, k1, fun i hi => ⟨j2 i hi, by have q9 := gm_aft_bef hi; have q8 := k2 _ q9.2; rw [q9.1] at q8; exact q8⟩⟩, fun w q1 q2 q3 => (k3 w q3).trans ((j3 w q2).trans (sv_un q1))⟩

set_option maxHeartbeats 4000000 in
set_option maxRecDepth 100000 in
theorem c_settle (G : sv_G) (h : sv_h) (z a n : Nat) (hm ly vo rt ar : Int32) (fx fy : Nat → Int32) (hp : h a = some (.inr (3, [.int hm, .int ly, .ref (a + 1), .ref (a + 2), .int (nI n), .int vo, .int rt, .int ar, .ref (a + 3), .ref (a + 4)]))) (hx : ab_I G h (a + 1) 16 fx) (hy : ab_I G h (a + 2) 16 fy) (hn : n ≤ 16) (f3 f4 : Nat → Int32) (h3 : ab_I G h (a + 3) 16 f3) (h4 : ab_I G h (a + 4) 16 f4) : CT G mX5_settle [.ref a] h z (fun v h1 z1 => v = none ∧ z1 = z ∧ h1 a = some (.inr (3, [.int hm, .int ly, .ref (a + 1), .ref (a + 2), .int (nI n), .int vo, .int rt, .int (gm_area n fx fy), .ref (a + 3), .ref (a + 4)])) ∧ (∃ ff fo, ab_I G h1 (a + 3) 16 ff ∧ ab_I G h1 (a + 4) 16 fo ∧ ∀ i, i < n → ff i = gm_face n fx fy i ∧ fo i = gm_outer n fx fy i) ∧ ∀ w, w ≠ a → w ≠ a + 3 → w ≠ a + 4 → h1 w = h w) := by
  refine CT.of (by decide +kernel) rfl rfl (Nat.le_of_ble_eq_true rfl) ?_
  refine v_lconst (v := 0) dX5_settle_0 (by decide) ?_
  refine v_lstore_n (L' := [(1, _), (0, _)]) dX5_settle_1 rfl (Nat.le_of_ble_eq_true rfl) rfl ?_
  refine v_iconst (v := 0) dX5_settle_2 (by decide) ?_
  refine v_istore_n (L' := [(3, _), (1, _), (0, _)]) dX5_settle_3 rfl (Nat.le_of_ble_eq_true rfl) rfl ?_
  refine v_sub (L' := [(3, _), (1, _), (0, _)]) [0, 1, 2] rfl ?_
  refine l_settle1 G _ h z a n hm ly vo rt ar fx fy hp hx hy hn (fun w3 => ?_) n 0 (by omega)
  refine v_lload_n dX5_settle_47 rfl 1 rfl ?_
  refine v_lconst (v := 0) dX5_settle_48 (by decide) ?_
  refine v_lcmp_le (tgt := 57) dX5_settle_49 dX5_settle_50 (by decide) (fun c_50 => ?_) (fun c_50 => ?_)
  · refine v_iconst (v := 0) dX5_settle_57 (by decide) ?_
    refine v_istore_n (L' := [(3, _), (1, _), (0, _)]) dX5_settle_58 rfl (Nat.le_of_ble_eq_true rfl) rfl ?_
    refine v_aload_n dX5_settle_59 rfl 2 rfl ?_
    refine v_iload_n dX5_settle_60 rfl 0 rfl ?_
    refine v_if_eq (tgt := 68) dX5_settle_61 (by decide) (fun c_61 => ?_) (fun c_61 => ?_)
    · refine v_lload_n dX5_settle_68 rfl 1 rfl ?_
      refine v_lneg dX5_settle_69 ?_
      refine v_l2i dX5_settle_70 rfl ?_
      refine v_putf 7 (fs' := [_, _, _, _, _, _, _, _, _, _]) (ci := 3) (C := RX5) (T := TX5) (N := 10) (ty := .int) rfl iwX5_settle_X5 tyX5 tyX5_ok nmX5 (Nat.le_of_ble_eq_true rfl) (by decide +kernel) rfl rfl dX5_settle_71 rfl rfl (by repeat (first | (with_reducible refine sv_us.trans ?_; exact rfl) | with_reducible assumption | with_reducible refine (sv_un (by omega)).trans ?_)) (Nat.le_of_ble_eq_true rfl) rfl ?_
      refine v_iconst (v := 0) dX5_settle_74 (by decide) ?_
      refine v_istore (L' := [(4, _), (3, _), (1, _), (0, _)]) dX5_settle_75 (Nat.le_of_ble_eq_true rfl) rfl ?_
      refine v_sub (L' := [(4, _), (3, _), (0, _)]) [0, 1, 3] rfl ?_
      have e9 := t_settle G h z a n hm ly vo rt ar fx fy hp hx hy hn f3 f4 h3 h4
      first
      | exact absurd c_61 (by decide)
      | exact absurd rfl c_61
      | (rw [if_pos (sv_lt_t c_50)] at e9; rw [← sv_ar_t (sv_lt_t c_50)]; exact e9)
      | (rw [if_neg (sv_lt_f c_50)] at e9; rw [← sv_ar_f (sv_lt_f c_50)]; exact e9)
    · refine v_lload_n dX5_settle_64 rfl 1 rfl ?_
      refine v_goto (tgt := 70) dX5_settle_65 (by decide) ?_
      refine v_l2i dX5_settle_70 rfl ?_
      refine v_putf 7 (fs' := [_, _, _, _, _, _, _, _, _, _]) (ci := 3) (C := RX5) (T := TX5) (N := 10) (ty := .int) rfl iwX5_settle_X5 tyX5 tyX5_ok nmX5 (Nat.le_of_ble_eq_true rfl) (by decide +kernel) rfl rfl dX5_settle_71 rfl rfl (by repeat (first | (with_reducible refine sv_us.trans ?_; exact rfl) | with_reducible assumption | with_reducible refine (sv_un (by omega)).trans ?_)) (Nat.le_of_ble_eq_true rfl) rfl ?_
      refine v_iconst (v := 0) dX5_settle_74 (by decide) ?_
      refine v_istore (L' := [(4, _), (3, _), (1, _), (0, _)]) dX5_settle_75 (Nat.le_of_ble_eq_true rfl) rfl ?_
      refine v_sub (L' := [(4, _), (3, _), (0, _)]) [0, 1, 3] rfl ?_
      have e9 := t_settle G h z a n hm ly vo rt ar fx fy hp hx hy hn f3 f4 h3 h4
      first
      | exact absurd c_61 (by decide)
      | exact absurd rfl c_61
      | (rw [if_pos (sv_lt_t c_50)] at e9; rw [← sv_ar_t (sv_lt_t c_50)]; exact e9)
      | (rw [if_neg (sv_lt_f c_50)] at e9; rw [← sv_ar_f (sv_lt_f c_50)]; exact e9)
  · refine v_iconst (v := 1) dX5_settle_53 (by decide) ?_
    refine v_goto (tgt := 58) dX5_settle_54 (by decide) ?_
    refine v_istore_n (L' := [(3, _), (1, _), (0, _)]) dX5_settle_58 rfl (Nat.le_of_ble_eq_true rfl) rfl ?_
    refine v_aload_n dX5_settle_59 rfl 2 rfl ?_
    refine v_iload_n dX5_settle_60 rfl 0 rfl ?_
    refine v_if_eq (tgt := 68) dX5_settle_61 (by decide) (fun c_61 => ?_) (fun c_61 => ?_)
    · refine v_lload_n dX5_settle_68 rfl 1 rfl ?_
      refine v_lneg dX5_settle_69 ?_
      refine v_l2i dX5_settle_70 rfl ?_
      refine v_putf 7 (fs' := [_, _, _, _, _, _, _, _, _, _]) (ci := 3) (C := RX5) (T := TX5) (N := 10) (ty := .int) rfl iwX5_settle_X5 tyX5 tyX5_ok nmX5 (Nat.le_of_ble_eq_true rfl) (by decide +kernel) rfl rfl dX5_settle_71 rfl rfl (by repeat (first | (with_reducible refine sv_us.trans ?_; exact rfl) | with_reducible assumption | with_reducible refine (sv_un (by omega)).trans ?_)) (Nat.le_of_ble_eq_true rfl) rfl ?_
      refine v_iconst (v := 0) dX5_settle_74 (by decide) ?_
      refine v_istore (L' := [(4, _), (3, _), (1, _), (0, _)]) dX5_settle_75 (Nat.le_of_ble_eq_true rfl) rfl ?_
      refine v_sub (L' := [(4, _), (3, _), (0, _)]) [0, 1, 3] rfl ?_
      have e9 := t_settle G h z a n hm ly vo rt ar fx fy hp hx hy hn f3 f4 h3 h4
      first
      | exact absurd c_61 (by decide)
      | exact absurd rfl c_61
      | (rw [if_pos (sv_lt_t c_50)] at e9; rw [← sv_ar_t (sv_lt_t c_50)]; exact e9)
      | (rw [if_neg (sv_lt_f c_50)] at e9; rw [← sv_ar_f (sv_lt_f c_50)]; exact e9)
    · refine v_lload_n dX5_settle_64 rfl 1 rfl ?_
      refine v_goto (tgt := 70) dX5_settle_65 (by decide) ?_
      refine v_l2i dX5_settle_70 rfl ?_
      refine v_putf 7 (fs' := [_, _, _, _, _, _, _, _, _, _]) (ci := 3) (C := RX5) (T := TX5) (N := 10) (ty := .int) rfl iwX5_settle_X5 tyX5 tyX5_ok nmX5 (Nat.le_of_ble_eq_true rfl) (by decide +kernel) rfl rfl dX5_settle_71 rfl rfl (by repeat (first | (with_reducible refine sv_us.trans ?_; exact rfl) | with_reducible assumption | with_reducible refine (sv_un (by omega)).trans ?_)) (Nat.le_of_ble_eq_true rfl) rfl ?_
      refine v_iconst (v := 0) dX5_settle_74 (by decide) ?_
      refine v_istore (L' := [(4, _), (3, _), (1, _), (0, _)]) dX5_settle_75 (Nat.le_of_ble_eq_true rfl) rfl ?_
      refine v_sub (L' := [(4, _), (3, _), (0, _)]) [0, 1, 3] rfl ?_
      have e9 := t_settle G h z a n hm ly vo rt ar fx fy hp hx hy hn f3 f4 h3 h4
      first
      | exact absurd c_61 (by decide)
      | exact absurd rfl c_61
      | (rw [if_pos (sv_lt_t c_50)] at e9; rw [← sv_ar_t (sv_lt_t c_50)]; exact e9)
      | (rw [if_neg (sv_lt_f c_50)] at e9; rw [← sv_ar_f (sv_lt_f c_50)]; exact e9)

