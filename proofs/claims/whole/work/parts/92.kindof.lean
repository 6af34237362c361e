theorem dX13_word_0 : decode cX13_word 0 = .ok (.lconst 0, 1) := by decide +kernel
theorem dX13_word_1 : decode cX13_word 1 = .ok (.lstore 5, 2) := by decide +kernel
theorem dX13_word_3 : decode cX13_word 3 = .ok (.iload_n 0, 1) := by decide +kernel
theorem dX13_word_4 : decode cX13_word 4 = .ok (.ifCond .le 19, 3) := by decide +kernel
theorem dX13_word_7 : decode cX13_word 7 = .ok (.ldc2_w 398, 3) := by decide +kernel
theorem dX13_word_10 : decode cX13_word 10 = .ok (.lload 5, 2) := by decide +kernel
theorem dX13_word_12 : decode cX13_word 12 = .ok (.lmul, 1) := by decide +kernel
theorem dX13_word_13 : decode cX13_word 13 = .ok (.iload_n 0, 1) := by decide +kernel
theorem dX13_word_14 : decode cX13_word 14 = .ok (.i2l, 1) := by decide +kernel
theorem dX13_word_15 : decode cX13_word 15 = .ok (.ladd, 1) := by decide +kernel
theorem dX13_word_16 : decode cX13_word 16 = .ok (.ldc2_w 400, 3) := by decide +kernel
theorem dX13_word_19 : decode cX13_word 19 = .ok (.lsub, 1) := by decide +kernel
theorem dX13_word_20 : decode cX13_word 20 = .ok (.goto 5, 3) := by decide +kernel
theorem dX13_word_23 : decode cX13_word 23 = .ok (.lload 5, 2) := by decide +kernel
theorem dX13_word_25 : decode cX13_word 25 = .ok (.lstore 5, 2) := by decide +kernel
theorem dX13_word_27 : decode cX13_word 27 = .ok (.iload_n 1, 1) := by decide +kernel
theorem dX13_word_28 : decode cX13_word 28 = .ok (.ifCond .le 19, 3) := by decide +kernel
theorem dX13_word_31 : decode cX13_word 31 = .ok (.ldc2_w 398, 3) := by decide +kernel
theorem dX13_word_34 : decode cX13_word 34 = .ok (.lload 5, 2) := by decide +kernel
theorem dX13_word_36 : decode cX13_word 36 = .ok (.lmul, 1) := by decide +kernel
theorem dX13_word_37 : decode cX13_word 37 = .ok (.iload_n 1, 1) := by decide +kernel
theorem dX13_word_38 : decode cX13_word 38 = .ok (.i2l, 1) := by decide +kernel
theorem dX13_word_39 : decode cX13_word 39 = .ok (.ladd, 1) := by decide +kernel
theorem dX13_word_40 : decode cX13_word 40 = .ok (.ldc2_w 400, 3) := by decide +kernel
theorem dX13_word_43 : decode cX13_word 43 = .ok (.lsub, 1) := by decide +kernel
theorem dX13_word_44 : decode cX13_word 44 = .ok (.goto 5, 3) := by decide +kernel
theorem dX13_word_47 : decode cX13_word 47 = .ok (.lload 5, 2) := by decide +kernel
theorem dX13_word_49 : decode cX13_word 49 = .ok (.lstore 5, 2) := by decide +kernel
theorem dX13_word_51 : decode cX13_word 51 = .ok (.iload_n 2, 1) := by decide +kernel
theorem dX13_word_52 : decode cX13_word 52 = .ok (.ifCond .le 19, 3) := by decide +kernel
theorem dX13_word_55 : decode cX13_word 55 = .ok (.ldc2_w 398, 3) := by decide +kernel
theorem dX13_word_58 : decode cX13_word 58 = .ok (.lload 5, 2) := by decide +kernel
theorem dX13_word_60 : decode cX13_word 60 = .ok (.lmul, 1) := by decide +kernel
theorem dX13_word_61 : decode cX13_word 61 = .ok (.iload_n 2, 1) := by decide +kernel
theorem dX13_word_62 : decode cX13_word 62 = .ok (.i2l, 1) := by decide +kernel
theorem dX13_word_63 : decode cX13_word 63 = .ok (.ladd, 1) := by decide +kernel
theorem dX13_word_64 : decode cX13_word 64 = .ok (.ldc2_w 400, 3) := by decide +kernel
theorem dX13_word_67 : decode cX13_word 67 = .ok (.lsub, 1) := by decide +kernel
theorem dX13_word_68 : decode cX13_word 68 = .ok (.goto 5, 3) := by decide +kernel
theorem dX13_word_71 : decode cX13_word 71 = .ok (.lload 5, 2) := by decide +kernel
theorem dX13_word_73 : decode cX13_word 73 = .ok (.lstore 5, 2) := by decide +kernel
theorem dX13_word_75 : decode cX13_word 75 = .ok (.iload_n 3, 1) := by decide +kernel
theorem dX13_word_76 : decode cX13_word 76 = .ok (.ifCond .le 19, 3) := by decide +kernel
theorem dX13_word_79 : decode cX13_word 79 = .ok (.ldc2_w 398, 3) := by decide +kernel
theorem dX13_word_82 : decode cX13_word 82 = .ok (.lload 5, 2) := by decide +kernel
theorem dX13_word_84 : decode cX13_word 84 = .ok (.lmul, 1) := by decide +kernel
theorem dX13_word_85 : decode cX13_word 85 = .ok (.iload_n 3, 1) := by decide +kernel
theorem dX13_word_86 : decode cX13_word 86 = .ok (.i2l, 1) := by decide +kernel
theorem dX13_word_87 : decode cX13_word 87 = .ok (.ladd, 1) := by decide +kernel
theorem dX13_word_88 : decode cX13_word 88 = .ok (.ldc2_w 400, 3) := by decide +kernel
theorem dX13_word_91 : decode cX13_word 91 = .ok (.lsub, 1) := by decide +kernel
theorem dX13_word_92 : decode cX13_word 92 = .ok (.goto 5, 3) := by decide +kernel
theorem dX13_word_95 : decode cX13_word 95 = .ok (.lload 5, 2) := by decide +kernel
theorem dX13_word_97 : decode cX13_word 97 = .ok (.lstore 5, 2) := by decide +kernel
theorem dX13_word_99 : decode cX13_word 99 = .ok (.iload 4, 2) := by decide +kernel
theorem dX13_word_101 : decode cX13_word 101 = .ok (.ifCond .le 20, 3) := by decide +kernel
theorem dX13_word_104 : decode cX13_word 104 = .ok (.ldc2_w 398, 3) := by decide +kernel
theorem dX13_word_107 : decode cX13_word 107 = .ok (.lload 5, 2) := by decide +kernel
theorem dX13_word_109 : decode cX13_word 109 = .ok (.lmul, 1) := by decide +kernel
theorem dX13_word_110 : decode cX13_word 110 = .ok (.iload 4, 2) := by decide +kernel
theorem dX13_word_112 : decode cX13_word 112 = .ok (.i2l, 1) := by decide +kernel
theorem dX13_word_113 : decode cX13_word 113 = .ok (.ladd, 1) := by decide +kernel
theorem dX13_word_114 : decode cX13_word 114 = .ok (.ldc2_w 400, 3) := by decide +kernel
theorem dX13_word_117 : decode cX13_word 117 = .ok (.lsub, 1) := by decide +kernel
theorem dX13_word_118 : decode cX13_word 118 = .ok (.goto 5, 3) := by decide +kernel
theorem dX13_word_121 : decode cX13_word 121 = .ok (.lload 5, 2) := by decide +kernel
theorem dX13_word_123 : decode cX13_word 123 = .ok (.lreturn, 1) := by decide +kernel
theorem dX13_joined_0 : decode cX13_joined 0 = .ok (.lload_n 0, 1) := by decide +kernel
theorem dX13_joined_1 : decode cX13_joined 1 = .ok (.lstore 5, 2) := by decide +kernel
theorem dX13_joined_3 : decode cX13_joined 3 = .ok (.iconst 0, 1) := by decide +kernel
theorem dX13_joined_4 : decode cX13_joined 4 = .ok (.istore 7, 2) := by decide +kernel
theorem dX13_joined_6 : decode cX13_joined 6 = .ok (.iload 7, 2) := by decide +kernel
theorem dX13_joined_8 : decode cX13_joined 8 = .ok (.iload 4, 2) := by decide +kernel
theorem dX13_joined_10 : decode cX13_joined 10 = .ok (.if_icmp .ge 17, 3) := by decide +kernel
theorem dX13_joined_13 : decode cX13_joined 13 = .ok (.lload 5, 2) := by decide +kernel
theorem dX13_joined_15 : decode cX13_joined 15 = .ok (.ldc2_w 398, 3) := by decide +kernel
theorem dX13_joined_18 : decode cX13_joined 18 = .ok (.lmul, 1) := by decide +kernel
theorem dX13_joined_19 : decode cX13_joined 19 = .ok (.lstore 5, 2) := by decide +kernel
theorem dX13_joined_21 : decode cX13_joined 21 = .ok (.iinc 7 1, 3) := by decide +kernel
theorem dX13_joined_24 : decode cX13_joined 24 = .ok (.goto (-18), 3) := by decide +kernel
theorem dX13_joined_27 : decode cX13_joined 27 = .ok (.lload 5, 2) := by decide +kernel
theorem dX13_joined_29 : decode cX13_joined 29 = .ok (.lload_n 2, 1) := by decide +kernel
theorem dX13_joined_30 : decode cX13_joined 30 = .ok (.ladd, 1) := by decide +kernel
theorem dX13_joined_31 : decode cX13_joined 31 = .ok (.lreturn, 1) := by decide +kernel
set_option maxRecDepth 20000 in
theorem ggX13_kindOf_X13_word : GoodIn wsX13_kindOf wsX13_word := goodIn_r _ [4, 5, 6] (by decide +kernel) (by decide +kernel)
set_option maxRecDepth 20000 in
theorem ggX13_kindOf_X13_joined : GoodIn wsX13_kindOf wsX13_joined := goodIn_r _ [9, 5] (by decide +kernel) (by decide +kernel)
theorem dX13_kindOf_0 : decode cX13_kindOf 0 = .ok (.lload_n 1, 1) := by decide +kernel
theorem dX13_kindOf_1 : decode cX13_kindOf 1 = .ok (.bipush 119, 2) := by decide +kernel
theorem dX13_kindOf_3 : decode cX13_kindOf 3 = .ok (.bipush 105, 2) := by decide +kernel
theorem dX13_kindOf_5 : decode cX13_kindOf 5 = .ok (.bipush 100, 2) := by decide +kernel
theorem dX13_kindOf_7 : decode cX13_kindOf 7 = .ok (.bipush 116, 2) := by decide +kernel
theorem dX13_kindOf_9 : decode cX13_kindOf 9 = .ok (.bipush 104, 2) := by decide +kernel
theorem dX13_kindOf_11 : decode cX13_kindOf 11 = .ok (.invokestatic 415, 3) := by decide +kernel
theorem dX13_kindOf_14 : decode cX13_kindOf 14 = .ok (.lcmp, 1) := by decide +kernel
theorem dX13_kindOf_15 : decode cX13_kindOf 15 = .ok (.ifCond .ne 5, 3) := by decide +kernel
theorem dX13_kindOf_18 : decode cX13_kindOf 18 = .ok (.iconst 0, 1) := by decide +kernel
theorem dX13_kindOf_19 : decode cX13_kindOf 19 = .ok (.ireturn, 1) := by decide +kernel
theorem dX13_kindOf_20 : decode cX13_kindOf 20 = .ok (.lload_n 1, 1) := by decide +kernel
theorem dX13_kindOf_21 : decode cX13_kindOf 21 = .ok (.bipush 110, 2) := by decide +kernel
theorem dX13_kindOf_23 : decode cX13_kindOf 23 = .ok (.bipush 111, 2) := by decide +kernel
theorem dX13_kindOf_25 : decode cX13_kindOf 25 = .ok (.bipush 116, 2) := by decide +kernel
theorem dX13_kindOf_27 : decode cX13_kindOf 27 = .ok (.bipush 99, 2) := by decide +kernel
theorem dX13_kindOf_29 : decode cX13_kindOf 29 = .ok (.bipush 104, 2) := by decide +kernel
theorem dX13_kindOf_31 : decode cX13_kindOf 31 = .ok (.invokestatic 415, 3) := by decide +kernel
theorem dX13_kindOf_34 : decode cX13_kindOf 34 = .ok (.lcmp, 1) := by decide +kernel
theorem dX13_kindOf_35 : decode cX13_kindOf 35 = .ok (.ifCond .ne 5, 3) := by decide +kernel
theorem dX13_kindOf_38 : decode cX13_kindOf 38 = .ok (.iconst 1, 1) := by decide +kernel
theorem dX13_kindOf_39 : decode cX13_kindOf 39 = .ok (.ireturn, 1) := by decide +kernel
theorem dX13_kindOf_40 : decode cX13_kindOf 40 = .ok (.lload_n 1, 1) := by decide +kernel
theorem dX13_kindOf_41 : decode cX13_kindOf 41 = .ok (.bipush 97, 2) := by decide +kernel
theorem dX13_kindOf_43 : decode cX13_kindOf 43 = .ok (.bipush 114, 2) := by decide +kernel
theorem dX13_kindOf_45 : decode cX13_kindOf 45 = .ok (.bipush 101, 2) := by decide +kernel
theorem dX13_kindOf_47 : decode cX13_kindOf 47 = .ok (.bipush 97, 2) := by decide +kernel
theorem dX13_kindOf_49 : decode cX13_kindOf 49 = .ok (.iconst 0, 1) := by decide +kernel
theorem dX13_kindOf_50 : decode cX13_kindOf 50 = .ok (.invokestatic 415, 3) := by decide +kernel
theorem dX13_kindOf_53 : decode cX13_kindOf 53 = .ok (.lcmp, 1) := by decide +kernel
theorem dX13_kindOf_54 : decode cX13_kindOf 54 = .ok (.ifCond .ne 5, 3) := by decide +kernel
theorem dX13_kindOf_57 : decode cX13_kindOf 57 = .ok (.iconst 2, 1) := by decide +kernel
theorem dX13_kindOf_58 : decode cX13_kindOf 58 = .ok (.ireturn, 1) := by decide +kernel
theorem dX13_kindOf_59 : decode cX13_kindOf 59 = .ok (.lload_n 1, 1) := by decide +kernel
theorem dX13_kindOf_60 : decode cX13_kindOf 60 = .ok (.bipush 101, 2) := by decide +kernel
theorem dX13_kindOf_62 : decode cX13_kindOf 62 = .ok (.bipush 100, 2) := by decide +kernel
theorem dX13_kindOf_64 : decode cX13_kindOf 64 = .ok (.bipush 103, 2) := by decide +kernel
theorem dX13_kindOf_66 : decode cX13_kindOf 66 = .ok (.bipush 101, 2) := by decide +kernel
theorem dX13_kindOf_68 : decode cX13_kindOf 68 = .ok (.iconst 0, 1) := by decide +kernel
theorem dX13_kindOf_69 : decode cX13_kindOf 69 = .ok (.invokestatic 415, 3) := by decide +kernel
theorem dX13_kindOf_72 : decode cX13_kindOf 72 = .ok (.lcmp, 1) := by decide +kernel
theorem dX13_kindOf_73 : decode cX13_kindOf 73 = .ok (.ifCond .ne 5, 3) := by decide +kernel
theorem dX13_kindOf_76 : decode cX13_kindOf 76 = .ok (.iconst 3, 1) := by decide +kernel
theorem dX13_kindOf_77 : decode cX13_kindOf 77 = .ok (.ireturn, 1) := by decide +kernel
theorem dX13_kindOf_78 : decode cX13_kindOf 78 = .ok (.lload_n 1, 1) := by decide +kernel
theorem dX13_kindOf_79 : decode cX13_kindOf 79 = .ok (.bipush 99, 2) := by decide +kernel
theorem dX13_kindOf_81 : decode cX13_kindOf 81 = .ok (.bipush 111, 2) := by decide +kernel
theorem dX13_kindOf_83 : decode cX13_kindOf 83 = .ok (.bipush 114, 2) := by decide +kernel
theorem dX13_kindOf_85 : decode cX13_kindOf 85 = .ok (.bipush 110, 2) := by decide +kernel
theorem dX13_kindOf_87 : decode cX13_kindOf 87 = .ok (.bipush 101, 2) := by decide +kernel
theorem dX13_kindOf_89 : decode cX13_kindOf 89 = .ok (.invokestatic 415, 3) := by decide +kernel
theorem dX13_kindOf_92 : decode cX13_kindOf 92 = .ok (.bipush 114, 2) := by decide +kernel
theorem dX13_kindOf_94 : decode cX13_kindOf 94 = .ok (.bipush 115, 2) := by decide +kernel
theorem dX13_kindOf_96 : decode cX13_kindOf 96 = .ok (.iconst 0, 1) := by decide +kernel
theorem dX13_kindOf_97 : decode cX13_kindOf 97 = .ok (.iconst 0, 1) := by decide +kernel
theorem dX13_kindOf_98 : decode cX13_kindOf 98 = .ok (.iconst 0, 1) := by decide +kernel
theorem dX13_kindOf_99 : decode cX13_kindOf 99 = .ok (.invokestatic 415, 3) := by decide +kernel
theorem dX13_kindOf_102 : decode cX13_kindOf 102 = .ok (.iconst 2, 1) := by decide +kernel
theorem dX13_kindOf_103 : decode cX13_kindOf 103 = .ok (.invokestatic 418, 3) := by decide +kernel
theorem dX13_kindOf_106 : decode cX13_kindOf 106 = .ok (.lcmp, 1) := by decide +kernel
theorem dX13_kindOf_107 : decode cX13_kindOf 107 = .ok (.ifCond .ne 5, 3) := by decide +kernel
theorem dX13_kindOf_110 : decode cX13_kindOf 110 = .ok (.iconst 4, 1) := by decide +kernel
theorem dX13_kindOf_111 : decode cX13_kindOf 111 = .ok (.ireturn, 1) := by decide +kernel
theorem dX13_kindOf_112 : decode cX13_kindOf 112 = .ok (.lload_n 1, 1) := by decide +kernel
theorem dX13_kindOf_113 : decode cX13_kindOf 113 = .ok (.bipush 100, 2) := by decide +kernel
theorem dX13_kindOf_115 : decode cX13_kindOf 115 = .ok (.bipush 101, 2) := by decide +kernel
theorem dX13_kindOf_117 : decode cX13_kindOf 117 = .ok (.bipush 110, 2) := by decide +kernel
theorem dX13_kindOf_119 : decode cX13_kindOf 119 = .ok (.bipush 115, 2) := by decide +kernel
theorem dX13_kindOf_121 : decode cX13_kindOf 121 = .ok (.bipush 105, 2) := by decide +kernel
theorem dX13_kindOf_123 : decode cX13_kindOf 123 = .ok (.invokestatic 415, 3) := by decide +kernel
theorem dX13_kindOf_126 : decode cX13_kindOf 126 = .ok (.bipush 116, 2) := by decide +kernel
theorem dX13_kindOf_128 : decode cX13_kindOf 128 = .ok (.bipush 121, 2) := by decide +kernel
theorem dX13_kindOf_130 : decode cX13_kindOf 130 = .ok (.iconst 0, 1) := by decide +kernel
theorem dX13_kindOf_131 : decode cX13_kindOf 131 = .ok (.iconst 0, 1) := by decide +kernel
theorem dX13_kindOf_132 : decode cX13_kindOf 132 = .ok (.iconst 0, 1) := by decide +kernel
theorem dX13_kindOf_133 : decode cX13_kindOf 133 = .ok (.invokestatic 415, 3) := by decide +kernel
theorem dX13_kindOf_136 : decode cX13_kindOf 136 = .ok (.iconst 2, 1) := by decide +kernel
theorem dX13_kindOf_137 : decode cX13_kindOf 137 = .ok (.invokestatic 418, 3) := by decide +kernel
theorem dX13_kindOf_140 : decode cX13_kindOf 140 = .ok (.lcmp, 1) := by decide +kernel
theorem dX13_kindOf_141 : decode cX13_kindOf 141 = .ok (.ifCond .ne 5, 3) := by decide +kernel
theorem dX13_kindOf_144 : decode cX13_kindOf 144 = .ok (.iconst 5, 1) := by decide +kernel
theorem dX13_kindOf_145 : decode cX13_kindOf 145 = .ok (.ireturn, 1) := by decide +kernel
theorem dX13_kindOf_146 : decode cX13_kindOf 146 = .ok (.lload_n 1, 1) := by decide +kernel
theorem dX13_kindOf_147 : decode cX13_kindOf 147 = .ok (.bipush 99, 2) := by decide +kernel
theorem dX13_kindOf_149 : decode cX13_kindOf 149 = .ok (.bipush 111, 2) := by decide +kernel
theorem dX13_kindOf_151 : decode cX13_kindOf 151 = .ok (.bipush 117, 2) := by decide +kernel
theorem dX13_kindOf_153 : decode cX13_kindOf 153 = .ok (.bipush 110, 2) := by decide +kernel
theorem dX13_kindOf_155 : decode cX13_kindOf 155 = .ok (.bipush 116, 2) := by decide +kernel
theorem dX13_kindOf_157 : decode cX13_kindOf 157 = .ok (.invokestatic 415, 3) := by decide +kernel
theorem dX13_kindOf_160 : decode cX13_kindOf 160 = .ok (.lcmp, 1) := by decide +kernel
theorem dX13_kindOf_161 : decode cX13_kindOf 161 = .ok (.ifCond .ne 6, 3) := by decide +kernel
theorem dX13_kindOf_164 : decode cX13_kindOf 164 = .ok (.bipush 6, 2) := by decide +kernel
theorem dX13_kindOf_166 : decode cX13_kindOf 166 = .ok (.ireturn, 1) := by decide +kernel
theorem dX13_kindOf_167 : decode cX13_kindOf 167 = .ok (.lload_n 1, 1) := by decide +kernel
theorem dX13_kindOf_168 : decode cX13_kindOf 168 = .ok (.bipush 115, 2) := by decide +kernel
theorem dX13_kindOf_170 : decode cX13_kindOf 170 = .ok (.bipush 112, 2) := by decide +kernel
theorem dX13_kindOf_172 : decode cX13_kindOf 172 = .ok (.bipush 97, 2) := by decide +kernel
theorem dX13_kindOf_174 : decode cX13_kindOf 174 = .ok (.bipush 99, 2) := by decide +kernel
theorem dX13_kindOf_176 : decode cX13_kindOf 176 = .ok (.bipush 101, 2) := by decide +kernel
theorem dX13_kindOf_178 : decode cX13_kindOf 178 = .ok (.invokestatic 415, 3) := by decide +kernel
theorem dX13_kindOf_181 : decode cX13_kindOf 181 = .ok (.lcmp, 1) := by decide +kernel
theorem dX13_kindOf_182 : decode cX13_kindOf 182 = .ok (.ifCond .ne 6, 3) := by decide +kernel
theorem dX13_kindOf_185 : decode cX13_kindOf 185 = .ok (.bipush 7, 2) := by decide +kernel
theorem dX13_kindOf_187 : decode cX13_kindOf 187 = .ok (.ireturn, 1) := by decide +kernel
theorem dX13_kindOf_188 : decode cX13_kindOf 188 = .ok (.lload_n 1, 1) := by decide +kernel
theorem dX13_kindOf_189 : decode cX13_kindOf 189 = .ok (.bipush 99, 2) := by decide +kernel
theorem dX13_kindOf_191 : decode cX13_kindOf 191 = .ok (.bipush 111, 2) := by decide +kernel
theorem dX13_kindOf_193 : decode cX13_kindOf 193 = .ok (.bipush 114, 2) := by decide +kernel
theorem dX13_kindOf_195 : decode cX13_kindOf 195 = .ok (.bipush 110, 2) := by decide +kernel
theorem dX13_kindOf_197 : decode cX13_kindOf 197 = .ok (.bipush 101, 2) := by decide +kernel
theorem dX13_kindOf_199 : decode cX13_kindOf 199 = .ok (.invokestatic 415, 3) := by decide +kernel
theorem dX13_kindOf_202 : decode cX13_kindOf 202 = .ok (.bipush 114, 2) := by decide +kernel
theorem dX13_kindOf_204 : decode cX13_kindOf 204 = .ok (.iconst 0, 1) := by decide +kernel
theorem dX13_kindOf_205 : decode cX13_kindOf 205 = .ok (.iconst 0, 1) := by decide +kernel
theorem dX13_kindOf_206 : decode cX13_kindOf 206 = .ok (.iconst 0, 1) := by decide +kernel
theorem dX13_kindOf_207 : decode cX13_kindOf 207 = .ok (.iconst 0, 1) := by decide +kernel
theorem dX13_kindOf_208 : decode cX13_kindOf 208 = .ok (.invokestatic 415, 3) := by decide +kernel
theorem dX13_kindOf_211 : decode cX13_kindOf 211 = .ok (.iconst 1, 1) := by decide +kernel
theorem dX13_kindOf_212 : decode cX13_kindOf 212 = .ok (.invokestatic 418, 3) := by decide +kernel
theorem dX13_kindOf_215 : decode cX13_kindOf 215 = .ok (.lcmp, 1) := by decide +kernel
theorem dX13_kindOf_216 : decode cX13_kindOf 216 = .ok (.ifCond .ne 6, 3) := by decide +kernel
theorem dX13_kindOf_219 : decode cX13_kindOf 219 = .ok (.bipush 8, 2) := by decide +kernel
theorem dX13_kindOf_221 : decode cX13_kindOf 221 = .ok (.ireturn, 1) := by decide +kernel
theorem dX13_kindOf_222 : decode cX13_kindOf 222 = .ok (.lload_n 1, 1) := by decide +kernel
theorem dX13_kindOf_223 : decode cX13_kindOf 223 = .ok (.bipush 101, 2) := by decide +kernel
theorem dX13_kindOf_225 : decode cX13_kindOf 225 = .ok (.bipush 110, 2) := by decide +kernel
theorem dX13_kindOf_227 : decode cX13_kindOf 227 = .ok (.bipush 99, 2) := by decide +kernel
theorem dX13_kindOf_229 : decode cX13_kindOf 229 = .ok (.bipush 108, 2) := by decide +kernel
theorem dX13_kindOf_231 : decode cX13_kindOf 231 = .ok (.bipush 111, 2) := by decide +kernel
theorem dX13_kindOf_233 : decode cX13_kindOf 233 = .ok (.invokestatic 415, 3) := by decide +kernel
theorem dX13_kindOf_236 : decode cX13_kindOf 236 = .ok (.bipush 115, 2) := by decide +kernel
theorem dX13_kindOf_238 : decode cX13_kindOf 238 = .ok (.bipush 101, 2) := by decide +kernel
theorem dX13_kindOf_240 : decode cX13_kindOf 240 = .ok (.iconst 0, 1) := by decide +kernel
theorem dX13_kindOf_241 : decode cX13_kindOf 241 = .ok (.iconst 0, 1) := by decide +kernel
theorem dX13_kindOf_242 : decode cX13_kindOf 242 = .ok (.iconst 0, 1) := by decide +kernel
theorem dX13_kindOf_243 : decode cX13_kindOf 243 = .ok (.invokestatic 415, 3) := by decide +kernel
theorem dX13_kindOf_246 : decode cX13_kindOf 246 = .ok (.iconst 2, 1) := by decide +kernel
theorem dX13_kindOf_247 : decode cX13_kindOf 247 = .ok (.invokestatic 418, 3) := by decide +kernel
theorem dX13_kindOf_250 : decode cX13_kindOf 250 = .ok (.lcmp, 1) := by decide +kernel
theorem dX13_kindOf_251 : decode cX13_kindOf 251 = .ok (.ifCond .ne 6, 3) := by decide +kernel
theorem dX13_kindOf_254 : decode cX13_kindOf 254 = .ok (.bipush 9, 2) := by decide +kernel
theorem dX13_kindOf_256 : decode cX13_kindOf 256 = .ok (.ireturn, 1) := by decide +kernel
theorem dX13_kindOf_257 : decode cX13_kindOf 257 = .ok (.lload_n 1, 1) := by decide +kernel
theorem dX13_kindOf_258 : decode cX13_kindOf 258 = .ok (.bipush 111, 2) := by decide +kernel
theorem dX13_kindOf_260 : decode cX13_kindOf 260 = .ok (.bipush 118, 2) := by decide +kernel
theorem dX13_kindOf_262 : decode cX13_kindOf 262 = .ok (.bipush 101, 2) := by decide +kernel
theorem dX13_kindOf_264 : decode cX13_kindOf 264 = .ok (.bipush 114, 2) := by decide +kernel
theorem dX13_kindOf_266 : decode cX13_kindOf 266 = .ok (.bipush 108, 2) := by decide +kernel
theorem dX13_kindOf_268 : decode cX13_kindOf 268 = .ok (.invokestatic 415, 3) := by decide +kernel
theorem dX13_kindOf_271 : decode cX13_kindOf 271 = .ok (.bipush 97, 2) := by decide +kernel
theorem dX13_kindOf_273 : decode cX13_kindOf 273 = .ok (.bipush 112, 2) := by decide +kernel
theorem dX13_kindOf_275 : decode cX13_kindOf 275 = .ok (.iconst 0, 1) := by decide +kernel
theorem dX13_kindOf_276 : decode cX13_kindOf 276 = .ok (.iconst 0, 1) := by decide +kernel
theorem dX13_kindOf_277 : decode cX13_kindOf 277 = .ok (.iconst 0, 1) := by decide +kernel
theorem dX13_kindOf_278 : decode cX13_kindOf 278 = .ok (.invokestatic 415, 3) := by decide +kernel
theorem dX13_kindOf_281 : decode cX13_kindOf 281 = .ok (.iconst 2, 1) := by decide +kernel
theorem dX13_kindOf_282 : decode cX13_kindOf 282 = .ok (.invokestatic 418, 3) := by decide +kernel
theorem dX13_kindOf_285 : decode cX13_kindOf 285 = .ok (.lcmp, 1) := by decide +kernel
theorem dX13_kindOf_286 : decode cX13_kindOf 286 = .ok (.ifCond .ne 8, 3) := by decide +kernel
theorem dX13_kindOf_289 : decode cX13_kindOf 289 = .ok (.bipush 10, 2) := by decide +kernel
theorem dX13_kindOf_291 : decode cX13_kindOf 291 = .ok (.goto 4, 3) := by decide +kernel
theorem dX13_kindOf_294 : decode cX13_kindOf 294 = .ok (.iconst (-1), 1) := by decide +kernel
theorem dX13_kindOf_295 : decode cX13_kindOf 295 = .ok (.ireturn, 1) := by decide +kernel

abbrev mX13_word : sv_M := (cX13_word, 7, yX13_word, wsX13_word, (some .long), { frames := 0, cells := 0, slots := 0, locals := 0 }, [])
abbrev mX13_joined : sv_M := (cX13_joined, 8, yX13_joined, wsX13_joined, (some .long), { frames := 0, cells := 0, slots := 0, locals := 0 }, [])
abbrev mX13_kindOf : sv_M := (cX13_kindOf, 3, yX13_kindOf, wsX13_kindOf, (some .int), { frames := 1, cells := 0, slots := 0, locals := 27 }, [])
def mk_w (v : Int64) (a : Int32) : Int64 := if 0 < a then 27 * v + a.toInt64 - 96 else v
/-- what letters are worth -/
def mk_5 (a b c d e : Int32) : Int64 := mk_w (mk_w (mk_w (mk_w (mk_w 0 a) b) c) d) e
def mk_p (x : Int64) : Nat → Int64 | 0 => x | k + 1 => mk_p x k * 27
theorem mk_w1 {v : Int64} {a : Int32} (h : ¬ a ≤ 0) : 27 * v + a.toInt64 - 96 = mk_w v a := by rw [mk_w, if_pos (Int32.not_le.mp h)]
theorem mk_w0 {v : Int64} {a : Int32} (h : a ≤ 0) : v = mk_w v a := by rw [mk_w, if_neg (Int32.not_lt.mpr h)]
set_option maxHeartbeats 4000000 in
set_option maxRecDepth 100000 in
theorem t_word4 (G : sv_G) (h : sv_h) (z : Nat) (x : Int64) (a0 a1 a2 a3 a4 : Int32) : V G mX13_word (sv_MQ G mX13_word (fun v h1 z1 => v = some (.long (mk_w x a4)) ∧ h1 = h ∧ z1 = z)) 99 [(5, .long x), (0, .int a0), (1, .int a1), (2, .int a2), (3, .int a3), (4, .int a4)] [] h z 0 0 := by
  refine v_iload dX13_word_99 5 rfl ?_
  refine v_if_le (tgt := 121) dX13_word_101 (by decide) (fun c_101 => ?_) (fun c_101 => ?_)
  · refine v_lload dX13_word_121 0 rfl ?_
    exact v_lret rfl dX13_word_123 (Nat.le_of_ble_eq_true rfl) (Nat.le_of_ble_eq_true rfl) (by first | exact ⟨congrArg (fun i => some (Value.long i)) (mk_w1 c_101), rfl, rfl⟩ | exact ⟨congrArg (fun i => some (Value.long i)) (mk_w0 c_101), rfl, rfl⟩)
  · refine v_ldc2 (v := (27)) (by decide +kernel) dX13_word_104 ?_
    refine v_lload dX13_word_107 0 rfl ?_
    refine v_lmul dX13_word_109 ?_
    refine v_iload dX13_word_110 5 rfl ?_
    refine v_i2l dX13_word_112 rfl ?_
    refine v_ladd dX13_word_113 ?_
    refine v_ldc2 (v := (96)) (by decide +kernel) dX13_word_114 ?_
    refine v_lsub dX13_word_117 ?_
    refine v_goto (tgt := 123) dX13_word_118 (by decide) ?_
    exact v_lret rfl dX13_word_123 (Nat.le_of_ble_eq_true rfl) (Nat.le_of_ble_eq_true rfl) (by first | exact ⟨congrArg (fun i => some (Value.long i)) (mk_w1 c_101), rfl, rfl⟩ | exact ⟨congrArg (fun i => some (Value.long i)) (mk_w0 c_101), rfl, rfl⟩)

set_option maxHeartbeats 4000000 in
set_option maxRecDepth 100000 in
theorem t_word3 (G : sv_G) (h : sv_h) (z : Nat) (x : Int64) (a0 a1 a2 a3 a4 : Int32) : V G mX13_word (sv_MQ G mX13_word (fun v h1 z1 => v = some (.long (mk_w (mk_w x a3) a4)) ∧ h1 = h ∧ z1 = z)) 75 [(5, .long x), (0, .int a0), (1, .int a1), (2, .int a2), (3, .int a3), (4, .int a4)] [] h z 0 0 := by
  refine v_iload_n dX13_word_75 rfl 4 rfl ?_
  refine v_if_le (tgt := 95) dX13_word_76 (by decide) (fun c_76 => ?_) (fun c_76 => ?_)
  · refine v_lload dX13_word_95 0 rfl ?_
    refine v_lstore (L' := [(5, _), (0, _), (1, _), (2, _), (3, _), (4, _)]) dX13_word_97 (Nat.le_of_ble_eq_true rfl) rfl ?_
    refine v_sub (L' := [(5, _), (0, _), (1, _), (2, _), (3, _), (4, _)]) [0, 1, 2, 3, 4, 5] rfl ?_
    first
    | (rw [mk_w1 c_76]; exact t_word4 G h z _ a0 a1 a2 a3 a4)
    | (have c9 : a3 ≤ 0 := c_76; have e9 := t_word4 G h z (mk_w x a3) a0 a1 a2 a3 a4; rw [← mk_w0 c9] at e9 ⊢; exact e9)
  · refine v_ldc2 (v := (27)) (by decide +kernel) dX13_word_79 ?_
    refine v_lload dX13_word_82 0 rfl ?_
    refine v_lmul dX13_word_84 ?_
    refine v_iload_n dX13_word_85 rfl 4 rfl ?_
    refine v_i2l dX13_word_86 rfl ?_
    refine v_ladd dX13_word_87 ?_
    refine v_ldc2 (v := (96)) (by decide +kernel) dX13_word_88 ?_
    refine v_lsub dX13_word_91 ?_
    refine v_goto (tgt := 97) dX13_word_92 (by decide) ?_
    refine v_lstore (L' := [(5, _), (0, _), (1, _), (2, _), (3, _), (4, _)]) dX13_word_97 (Nat.le_of_ble_eq_true rfl) rfl ?_
    refine v_sub (L' := [(5, _), (0, _), (1, _), (2, _), (3, _), (4, _)]) [0, 1, 2, 3, 4, 5] rfl ?_
    first
    | (rw [mk_w1 c_76]; exact t_word4 G h z _ a0 a1 a2 a3 a4)
    | (have c9 : a3 ≤ 0 := c_76; have e9 := t_word4 G h z (mk_w x a3) a0 a1 a2 a3 a4; rw [← mk_w0 c9] at e9 ⊢; exact e9)

set_option maxHeartbeats 4000000 in
set_option maxRecDepth 100000 in
theorem t_word2 (G : sv_G) (h : sv_h) (z : Nat) (x : Int64) (a0 a1 a2 a3 a4 : Int32) : V G mX13_word (sv_MQ G mX13_word (fun v h1 z1 => v = some (.long (mk_w (mk_w (mk_w x a2) a3) a4)) ∧ h1 = h ∧ z1 = z)) 51 [(5, .long x), (0, .int a0), (1, .int a1), (2, .int a2), (3, .int a3), (4, .int a4)] [] h z 0 0 := by
  refine v_iload_n dX13_word_51 rfl 3 rfl ?_
  refine v_if_le (tgt := 71) dX13_word_52 (by decide) (fun c_52 => ?_) (fun c_52 => ?_)
  · refine v_lload dX13_word_71 0 rfl ?_
    refine v_lstore (L' := [(5, _), (0, _), (1, _), (2, _), (3, _), (4, _)]) dX13_word_73 (Nat.le_of_ble_eq_true rfl) rfl ?_
    refine v_sub (L' := [(5, _), (0, _), (1, _), (2, _), (3, _), (4, _)]) [0, 1, 2, 3, 4, 5] rfl ?_
    first
    | (rw [mk_w1 c_52]; exact t_word3 G h z _ a0 a1 a2 a3 a4)
    | (have c9 : a2 ≤ 0 := c_52; have e9 := t_word3 G h z (mk_w x a2) a0 a1 a2 a3 a4; rw [← mk_w0 c9] at e9 ⊢; exact e9)
  · refine v_ldc2 (v := (27)) (by decide +kernel) dX13_word_55 ?_
    refine v_lload dX13_word_58 0 rfl ?_
    refine v_lmul dX13_word_60 ?_
    refine v_iload_n dX13_word_61 rfl 3 rfl ?_
    refine v_i2l dX13_word_62 rfl ?_
    refine v_ladd dX13_word_63 ?_
    refine v_ldc2 (v := (96)) (by decide +kernel) dX13_word_64 ?_
    refine v_lsub dX13_word_67 ?_
    refine v_goto (tgt := 73) dX13_word_68 (by decide) ?_
    refine v_lstore (L' := [(5, _), (0, _), (1, _), (2, _), (3, _), (4, _)]) dX13_word_73 (Nat.le_of_ble_eq_true rfl) rfl ?_
    refine v_sub (L' := [(5, _), (0, _), (1, _), (2, _), (3, _), (4, _)]) [0, 1, 2, 3, 4, 5] rfl ?_
    first
    | (rw [mk_w1 c_52]; exact t_word3 G h z _ a0 a1 a2 a3 a4)
    | (have c9 : a2 ≤ 0 := c_52; have e9 := t_word3 G h z (mk_w x a2) a0 a1 a2 a3 a4; rw [← mk_w0 c9] at e9 ⊢; exact e9)

set_option maxHeartbeats 4000000 in
set_option maxRecDepth 100000 in
theorem t_word1 (G : sv_G) (h : sv_h) (z : Nat) (x : Int64) (a0 a1 a2 a3 a4 : Int32) : V G mX13_word (sv_MQ G mX13_word (fun v h1 z1 => v = some (.long (mk_w (mk_w (mk_w (mk_w x a1) a2) a3) a4)) ∧ h1 = h ∧ z1 = z)) 27 [(5, .long x), (0, .int a0), (1, .int a1), (2, .int a2), (3, .int a3), (4, .int a4)] [] h z 0 0 := by
  refine v_iload_n dX13_word_27 rfl 2 rfl ?_
  refine v_if_le (tgt := 47) dX13_word_28 (by decide) (fun c_28 => ?_) (fun c_28 => ?_)
  · refine v_lload dX13_word_47 0 rfl ?_
    refine v_lstore (L' := [(5, _), (0, _), (1, _), (2, _), (3, _), (4, _)]) dX13_word_49 (Nat.le_of_ble_eq_true rfl) rfl ?_
    refine v_sub (L' := [(5, _), (0, _), (1, _), (2, _), (3, _), (4, _)]) [0, 1, 2, 3, 4, 5] rfl ?_
    first
    | (rw [mk_w1 c_28]; exact t_word2 G h z _ a0 a1 a2 a3 a4)
    | (have c9 : a1 ≤ 0 := c_28; have e9 := t_word2 G h z (mk_w x a1) a0 a1 a2 a3 a4; rw [← mk_w0 c9] at e9 ⊢; exact e9)
  · refine v_ldc2 (v := (27)) (by decide +kernel) dX13_word_31 ?_
    refine v_lload dX13_word_34 0 rfl ?_
    refine v_lmul dX13_word_36 ?_
    refine v_iload_n dX13_word_37 rfl 2 rfl ?_
    refine v_i2l dX13_word_38 rfl ?_
    refine v_ladd dX13_word_39 ?_
    refine v_ldc2 (v := (96)) (by decide +kernel) dX13_word_40 ?_
    refine v_lsub dX13_word_43 ?_
    refine v_goto (tgt := 49) dX13_word_44 (by decide) ?_
    refine v_lstore (L' := [(5, _), (0, _), (1, _), (2, _), (3, _), (4, _)]) dX13_word_49 (Nat.le_of_ble_eq_true rfl) rfl ?_
    refine v_sub (L' := [(5, _), (0, _), (1, _), (2, _), (3, _), (4, _)]) [0, 1, 2, 3, 4, 5] rfl ?_
    first
    | (rw [mk_w1 c_28]; exact t_word2 G h z _ a0 a1 a2 a3 a4)
    | (have c9 : a1 ≤ 0 := c_28; have e9 := t_word2 G h z (mk_w x a1) a0 a1 a2 a3 a4; rw [← mk_w0 c9] at e9 ⊢; exact e9)

set_option maxHeartbeats 4000000 in
set_option maxRecDepth 100000 in
theorem t_word0 (G : sv_G) (h : sv_h) (z : Nat) (x : Int64) (a0 a1 a2 a3 a4 : Int32) : V G mX13_word (sv_MQ G mX13_word (fun v h1 z1 => v = some (.long (mk_w (mk_w (mk_w (mk_w (mk_w x a0) a1) a2) a3) a4)) ∧ h1 = h ∧ z1 = z)) 3 [(5, .long x), (0, .int a0), (1, .int a1), (2, .int a2), (3, .int a3), (4, .int a4)] [] h z 0 0 := by
  refine v_iload_n dX13_word_3 rfl 1 rfl ?_
  refine v_if_le (tgt := 23) dX13_word_4 (by decide) (fun c_4 => ?_) (fun c_4 => ?_)
  · refine v_lload dX13_word_23 0 rfl ?_
    refine v_lstore (L' := [(5, _), (0, _), (1, _), (2, _), (3, _), (4, _)]) dX13_word_25 (Nat.le_of_ble_eq_true rfl) rfl ?_
    refine v_sub (L' := [(5, _), (0, _), (1, _), (2, _), (3, _), (4, _)]) [0, 1, 2, 3, 4, 5] rfl ?_
    first
    | (rw [mk_w1 c_4]; exact t_word1 G h z _ a0 a1 a2 a3 a4)
    | (have c9 : a0 ≤ 0 := c_4; have e9 := t_word1 G h z (mk_w x a0) a0 a1 a2 a3 a4; rw [← mk_w0 c9] at e9 ⊢; exact e9)
  · refine v_ldc2 (v := (27)) (by decide +kernel) dX13_word_7 ?_
    refine v_lload dX13_word_10 0 rfl ?_
    refine v_lmul dX13_word_12 ?_
    refine v_iload_n dX13_word_13 rfl 1 rfl ?_
    refine v_i2l dX13_word_14 rfl ?_
    refine v_ladd dX13_word_15 ?_
    refine v_ldc2 (v := (96)) (by decide +kernel) dX13_word_16 ?_
    refine v_lsub dX13_word_19 ?_
    refine v_goto (tgt := 25) dX13_word_20 (by decide) ?_
    refine v_lstore (L' := [(5, _), (0, _), (1, _), (2, _), (3, _), (4, _)]) dX13_word_25 (Nat.le_of_ble_eq_true rfl) rfl ?_
    refine v_sub (L' := [(5, _), (0, _), (1, _), (2, _), (3, _), (4, _)]) [0, 1, 2, 3, 4, 5] rfl ?_
    first
    | (rw [mk_w1 c_4]; exact t_word1 G h z _ a0 a1 a2 a3 a4)
    | (have c9 : a0 ≤ 0 := c_4; have e9 := t_word1 G h z (mk_w x a0) a0 a1 a2 a3 a4; rw [← mk_w0 c9] at e9 ⊢; exact e9)

set_option maxHeartbeats 4000000 in
set_option maxRecDepth 100000 in
theorem m_word (G : sv_G) (h : sv_h) (z : Nat) (a0 a1 a2 a3 a4 : Int32) : CT G mX13_word [.int a0, .int a1, .int a2, .int a3, .int a4] h z (fun v h1 z1 => v = some (.long (mk_5 a0 a1 a2 a3 a4)) ∧ h1 = h ∧ z1 = z) := by
  refine CT.of (by decide +kernel) rfl rfl (Nat.le_of_ble_eq_true rfl) ?_
  refine v_lconst (v := 0) dX13_word_0 (by decide) ?_
  refine v_lstore (L' := [(5, _), (0, _), (1, _), (2, _), (3, _), (4, _)]) dX13_word_1 (Nat.le_of_ble_eq_true rfl) rfl ?_
  refine v_sub (L' := [(5, _), (0, _), (1, _), (2, _), (3, _), (4, _)]) [0, 1, 2, 3, 4, 5] rfl ?_
  exact t_word0 G h z 0 a0 a1 a2 a3 a4

set_option maxHeartbeats 4000000 in
set_option maxRecDepth 100000 in
theorem l_joined (G : sv_G) (h : sv_h) (z k : Nat) (x y : Int64) (hk : k < 100) : ∀ (c i : Nat), i + c = k → V G mX13_joined (sv_MQ G mX13_joined (fun v h1 z1 => v = some (.long (mk_p x k + y)) ∧ h1 = h ∧ z1 = z)) 6 [(7, .int (nI i)), (5, .long (mk_p x i)), (0, .long x), (2, .long y), (4, .int (nI k))] [] h z 0 0 := by
  intro c
  induction c with
  | zero =>
    intro i hic
    refine v_iload dX13_joined_6 0 rfl ?_
    refine v_iload dX13_joined_8 4 rfl ?_
    refine v_icmp_ge (tgt := 27) dX13_joined_10 (by decide) (fun c_10 => ?_) (fun c_10 => ?_)
    · refine v_lload dX13_joined_27 1 rfl ?_
      refine v_lload_n dX13_joined_29 rfl 3 rfl ?_
      refine v_ladd dX13_joined_30 ?_
      exact v_lret rfl dX13_joined_31 (Nat.le_of_ble_eq_true rfl) (Nat.le_of_ble_eq_true rfl) ⟨by rw [show k = i by omega], rfl, rfl⟩
    · exact absurd (show nI k ≤ nI i from nI_le (by omega) (by omega)) c_10
  | succ c ih =>
    intro i hic
    refine v_iload dX13_joined_6 0 rfl ?_
    refine v_iload dX13_joined_8 4 rfl ?_
    refine v_icmp_ge (tgt := 27) dX13_joined_10 (by decide) (fun c_10 => ?_) (fun c_10 => ?_)
    · exact absurd c_10 (nI_ge (by omega) (by omega))
    · refine v_lload dX13_joined_13 1 rfl ?_
      refine v_ldc2 (v := (27)) (by decide +kernel) dX13_joined_15 ?_
      refine v_lmul dX13_joined_18 ?_
      refine v_lstore (L' := [(5, _), (7, _), (0, _), (2, _), (4, _)]) dX13_joined_19 (Nat.le_of_ble_eq_true rfl) rfl ?_
      refine v_iinc (j := 1) (L' := [(7, _), (5, _), (0, _), (2, _), (4, _)]) (v := nI (i + 1)) dX13_joined_21 rfl (nI_1 _) (Nat.le_of_ble_eq_true rfl) rfl ?_
      refine v_goto (tgt := 6) dX13_joined_24 (by decide) ?_
      refine v_sub (L' := [(7, _), (5, _), (0, _), (2, _), (4, _)]) [0, 1, 2, 3, 4] rfl ?_
      exact ih (i + 1) (by omega)

set_option maxHeartbeats 4000000 in
set_option maxRecDepth 100000 in
theorem m_joined (G : sv_G) (h : sv_h) (z k : Nat) (x y : Int64) (hk : k < 100) : CT G mX13_joined [.long x, .long y, .int (nI k)] h z (fun v h1 z1 => v = some (.long (mk_p x k + y)) ∧ h1 = h ∧ z1 = z) := by
  refine CT.of (by decide +kernel) rfl rfl (Nat.le_of_ble_eq_true rfl) ?_
  refine v_lload_n dX13_joined_0 rfl 0 rfl ?_
  refine v_lstore (L' := [(5, _), (0, _), (2, _), (4, _)]) dX13_joined_1 (Nat.le_of_ble_eq_true rfl) rfl ?_
  refine v_iconst (v := 0) dX13_joined_3 (by decide) ?_
  refine v_istore (L' := [(7, _), (5, _), (0, _), (2, _), (4, _)]) dX13_joined_4 (Nat.le_of_ble_eq_true rfl) rfl ?_
  refine v_sub (L' := [(7, _), (5, _), (0, _), (2, _), (4, _)]) [0, 1, 2, 3, 4] rfl ?_
  exact l_joined G h z k x y hk k 0 (by omega)

/-- what the words of kinds are worth -/
def kw (i : Nat) : Int64 := match i with | 0 => (mk_5 119 105 100 116 104) | 1 => (mk_5 110 111 116 99 104) | 2 => (mk_5 97 114 101 97 0) | 3 => (mk_5 101 100 103 101 0) | 4 => (mk_p (mk_5 99 111 114 110 101) 2 + mk_5 114 115 0 0 0) | 5 => (mk_p (mk_5 100 101 110 115 105) 2 + mk_5 116 121 0 0 0) | 6 => (mk_5 99 111 117 110 116) | 7 => (mk_5 115 112 97 99 101) | 8 => (mk_p (mk_5 99 111 114 110 101) 1 + mk_5 114 0 0 0 0) | 9 => (mk_p (mk_5 101 110 99 108 111) 2 + mk_5 115 101 0 0 0) | _ => (mk_p (mk_5 111 118 101 114 108) 2 + mk_5 97 112 0 0 0)
def kdo (w : Int64) : Int32 := (if w = kw 0 then 0 else (if w = kw 1 then 1 else (if w = kw 2 then 2 else (if w = kw 3 then 3 else (if w = kw 4 then 4 else (if w = kw 5 then 5 else (if w = kw 6 then 6 else (if w = kw 7 then 7 else (if w = kw 8 then 8 else (if w = kw 9 then 9 else (if w = kw 10 then 10 else (-1))))))))))))
set_option maxHeartbeats 4000000 in
set_option maxRecDepth 100000 in
theorem m_kindOf (G : sv_G) (h : sv_h) (z m : Nat) (w : Int64) : CT G mX13_kindOf [.ref m, .long w] h z (fun v h1 z1 => v = some (.int (kdo w)) ∧ h1 = h ∧ z1 = z) := by
  refine CT.of (by decide +kernel) rfl rfl (Nat.le_of_ble_eq_true rfl) ?_
  refine v_lload_n dX13_kindOf_0 rfl 1 rfl ?_
  refine v_bipush (v := 119) dX13_kindOf_1 (by decide) ?_
  refine v_bipush (v := 105) dX13_kindOf_3 (by decide) ?_
  refine v_bipush (v := 100) dX13_kindOf_5 (by decide) ?_
  refine v_bipush (v := 116) dX13_kindOf_7 (by decide) ?_
  refine v_bipush (v := 104) dX13_kindOf_9 (by decide) ?_
  refine v_callSq (M' := mX13_word) (n := 5) (As := [_, _, _, _, _]) ggX13_kindOf_X13_word (by decide +kernel) (by decide +kernel) (by decide +kernel) rfl (by decide +kernel) ⟨(Nat.le_of_ble_eq_true rfl), (Nat.le_of_ble_eq_true rfl)⟩ dX13_kindOf_11 rfl ⟨(Nat.le_of_ble_eq_true rfl), (Nat.le_of_ble_eq_true rfl)⟩ (Nat.le_of_ble_eq_true rfl) rfl (m_word G _ _ _ _ _ _ _) (fun v h1 z1 hq => v_pq hq ?_)
  refine v_lcmp_ne (tgt := 20) dX13_kindOf_14 dX13_kindOf_15 (by decide) (fun c_15 => ?_) (fun c_15 => ?_)
  · refine v_lload_n dX13_kindOf_20 rfl 1 rfl ?_
    refine v_bipush (v := 110) dX13_kindOf_21 (by decide) ?_
    refine v_bipush (v := 111) dX13_kindOf_23 (by decide) ?_
    refine v_bipush (v := 116) dX13_kindOf_25 (by decide) ?_
    refine v_bipush (v := 99) dX13_kindOf_27 (by decide) ?_
    refine v_bipush (v := 104) dX13_kindOf_29 (by decide) ?_
    refine v_callSq (M' := mX13_word) (n := 5) (As := [_, _, _, _, _]) ggX13_kindOf_X13_word (by decide +kernel) (by decide +kernel) (by decide +kernel) rfl (by decide +kernel) ⟨(Nat.le_of_ble_eq_true rfl), (Nat.le_of_ble_eq_true rfl)⟩ dX13_kindOf_31 rfl ⟨(Nat.le_of_ble_eq_true rfl), (Nat.le_of_ble_eq_true rfl)⟩ (Nat.le_of_ble_eq_true rfl) rfl (m_word G _ _ _ _ _ _ _) (fun v h1 z1 hq => v_pq hq ?_)
    refine v_lcmp_ne (tgt := 40) dX13_kindOf_34 dX13_kindOf_35 (by decide) (fun c_35 => ?_) (fun c_35 => ?_)
    · refine v_lload_n dX13_kindOf_40 rfl 1 rfl ?_
      refine v_bipush (v := 97) dX13_kindOf_41 (by decide) ?_
      refine v_bipush (v := 114) dX13_kindOf_43 (by decide) ?_
      refine v_bipush (v := 101) dX13_kindOf_45 (by decide) ?_
      refine v_bipush (v := 97) dX13_kindOf_47 (by decide) ?_
      refine v_iconst (v := 0) dX13_kindOf_49 (by decide) ?_
      refine v_callSq (M' := mX13_word) (n := 5) (As := [_, _, _, _, _]) ggX13_kindOf_X13_word (by decide +kernel) (by decide +kernel) (by decide +kernel) rfl (by decide +kernel) ⟨(Nat.le_of_ble_eq_true rfl), (Nat.le_of_ble_eq_true rfl)⟩ dX13_kindOf_50 rfl ⟨(Nat.le_of_ble_eq_true rfl), (Nat.le_of_ble_eq_true rfl)⟩ (Nat.le_of_ble_eq_true rfl) rfl (m_word G _ _ _ _ _ _ _) (fun v h1 z1 hq => v_pq hq ?_)
      refine v_lcmp_ne (tgt := 59) dX13_kindOf_53 dX13_kindOf_54 (by decide) (fun c_54 => ?_) (fun c_54 => ?_)
      · refine v_lload_n dX13_kindOf_59 rfl 1 rfl ?_
        refine v_bipush (v := 101) dX13_kindOf_60 (by decide) ?_
        refine v_bipush (v := 100) dX13_kindOf_62 (by decide) ?_
        refine v_bipush (v := 103) dX13_kindOf_64 (by decide) ?_
        refine v_bipush (v := 101) dX13_kindOf_66 (by decide) ?_
        refine v_iconst (v := 0) dX13_kindOf_68 (by decide) ?_
        refine v_callSq (M' := mX13_word) (n := 5) (As := [_, _, _, _, _]) ggX13_kindOf_X13_word (by decide +kernel) (by decide +kernel) (by decide +kernel) rfl (by decide +kernel) ⟨(Nat.le_of_ble_eq_true rfl), (Nat.le_of_ble_eq_true rfl)⟩ dX13_kindOf_69 rfl ⟨(Nat.le_of_ble_eq_true rfl), (Nat.le_of_ble_eq_true rfl)⟩ (Nat.le_of_ble_eq_true rfl) rfl (m_word G _ _ _ _ _ _ _) (fun v h1 z1 hq => v_pq hq ?_)
        refine v_lcmp_ne (tgt := 78) dX13_kindOf_72 dX13_kindOf_73 (by decide) (fun c_73 => ?_) (fun c_73 => ?_)
        · refine v_lload_n dX13_kindOf_78 rfl 1 rfl ?_
          refine v_bipush (v := 99) dX13_kindOf_79 (by decide) ?_
          refine v_bipush (v := 111) dX13_kindOf_81 (by decide) ?_
          refine v_bipush (v := 114) dX13_kindOf_83 (by decide) ?_
          refine v_bipush (v := 110) dX13_kindOf_85 (by decide) ?_
          refine v_bipush (v := 101) dX13_kindOf_87 (by decide) ?_
          refine v_callSq (M' := mX13_word) (n := 5) (As := [_, _, _, _, _]) ggX13_kindOf_X13_word (by decide +kernel) (by decide +kernel) (by decide +kernel) rfl (by decide +kernel) ⟨(Nat.le_of_ble_eq_true rfl), (Nat.le_of_ble_eq_true rfl)⟩ dX13_kindOf_89 rfl ⟨(Nat.le_of_ble_eq_true rfl), (Nat.le_of_ble_eq_true rfl)⟩ (Nat.le_of_ble_eq_true rfl) rfl (m_word G _ _ _ _ _ _ _) (fun v h1 z1 hq => v_pq hq ?_)
          refine v_bipush (v := 114) dX13_kindOf_92 (by decide) ?_
          refine v_bipush (v := 115) dX13_kindOf_94 (by decide) ?_
          refine v_iconst (v := 0) dX13_kindOf_96 (by decide) ?_
          refine v_iconst (v := 0) dX13_kindOf_97 (by decide) ?_
          refine v_iconst (v := 0) dX13_kindOf_98 (by decide) ?_
          refine v_callSq (M' := mX13_word) (n := 5) (As := [_, _, _, _, _]) ggX13_kindOf_X13_word (by decide +kernel) (by decide +kernel) (by decide +kernel) rfl (by decide +kernel) ⟨(Nat.le_of_ble_eq_true rfl), (Nat.le_of_ble_eq_true rfl)⟩ dX13_kindOf_99 rfl ⟨(Nat.le_of_ble_eq_true rfl), (Nat.le_of_ble_eq_true rfl)⟩ (Nat.le_of_ble_eq_true rfl) rfl (m_word G _ _ _ _ _ _ _) (fun v h1 z1 hq => v_pq hq ?_)
          refine v_iconst (v := 2) dX13_kindOf_102 (by decide) ?_
          refine v_callSq (M' := mX13_joined) (n := 3) (As := [_, _, _]) ggX13_kindOf_X13_joined (by decide +kernel) (by decide +kernel) (by decide +kernel) rfl (by decide +kernel) ⟨(Nat.le_of_ble_eq_true rfl), (Nat.le_of_ble_eq_true rfl)⟩ dX13_kindOf_103 rfl ⟨(Nat.le_of_ble_eq_true rfl), (Nat.le_of_ble_eq_true rfl)⟩ (Nat.le_of_ble_eq_true rfl) rfl (m_joined G _ _ 2 _ _ (by decide)) (fun v h1 z1 hq => v_pq hq ?_)
          refine v_lcmp_ne (tgt := 112) dX13_kindOf_106 dX13_kindOf_107 (by decide) (fun c_107 => ?_) (fun c_107 => ?_)
          · refine v_lload_n dX13_kindOf_112 rfl 1 rfl ?_
            refine v_bipush (v := 100) dX13_kindOf_113 (by decide) ?_
            refine v_bipush (v := 101) dX13_kindOf_115 (by decide) ?_
            refine v_bipush (v := 110) dX13_kindOf_117 (by decide) ?_
            refine v_bipush (v := 115) dX13_kindOf_119 (by decide) ?_
            refine v_bipush (v := 105) dX13_kindOf_121 (by decide) ?_
            refine v_callSq (M' := mX13_word) (n := 5) (As := [_, _, _, _, _]) ggX13_kindOf_X13_word (by decide +kernel) (by decide +kernel) (by decide +kernel) rfl (by decide +kernel) ⟨(Nat.le_of_ble_eq_true rfl), (Nat.le_of_ble_eq_true rfl)⟩ dX13_kindOf_123 rfl ⟨(Nat.le_of_ble_eq_true rfl), (Nat.le_of_ble_eq_true rfl)⟩ (Nat.le_of_ble_eq_true rfl) rfl (m_word G _ _ _ _ _ _ _) (fun v h1 z1 hq => v_pq hq ?_)
            refine v_bipush (v := 116) dX13_kindOf_126 (by decide) ?_
            refine v_bipush (v := 121) dX13_kindOf_128 (by decide) ?_
            refine v_iconst (v := 0) dX13_kindOf_130 (by decide) ?_
            refine v_iconst (v := 0) dX13_kindOf_131 (by decide) ?_
            refine v_iconst (v := 0) dX13_kindOf_132 (by decide) ?_
            refine v_callSq (M' := mX13_word) (n := 5) (As := [_, _, _, _, _]) ggX13_kindOf_X13_word (by decide +kernel) (by decide +kernel) (by decide +kernel) rfl (by decide +kernel) ⟨(Nat.le_of_ble_eq_true rfl), (Nat.le_of_ble_eq_true rfl)⟩ dX13_kindOf_133 rfl ⟨(Nat.le_of_ble_eq_true rfl), (Nat.le_of_ble_eq_true rfl)⟩ (Nat.le_of_ble_eq_true rfl) rfl (m_word G _ _ _ _ _ _ _) (fun v h1 z1 hq => v_pq hq ?_)
            refine v_iconst (v := 2) dX13_kindOf_136 (by decide) ?_
            refine v_callSq (M' := mX13_joined) (n := 3) (As := [_, _, _]) ggX13_kindOf_X13_joined (by decide +kernel) (by decide +kernel) (by decide +kernel) rfl (by decide +kernel) ⟨(Nat.le_of_ble_eq_true rfl), (Nat.le_of_ble_eq_true rfl)⟩ dX13_kindOf_137 rfl ⟨(Nat.le_of_ble_eq_true rfl), (Nat.le_of_ble_eq_true rfl)⟩ (Nat.le_of_ble_eq_true rfl) rfl (m_joined G _ _ 2 _ _ (by decide)) (fun v h1 z1 hq => v_pq hq ?_)
            refine v_lcmp_ne (tgt := 146) dX13_kindOf_140 dX13_kindOf_141 (by decide) (fun c_141 => ?_) (fun c_141 => ?_)
            · refine v_lload_n dX13_kindOf_146 rfl 1 rfl ?_
              refine v_bipush (v := 99) dX13_kindOf_147 (by decide) ?_
              refine v_bipush (v := 111) dX13_kindOf_149 (by decide) ?_
              refine v_bipush (v := 117) dX13_kindOf_151 (by decide) ?_
              refine v_bipush (v := 110) dX13_kindOf_153 (by decide) ?_
              refine v_bipush (v := 116) dX13_kindOf_155 (by decide) ?_
              refine v_callSq (M' := mX13_word) (n := 5) (As := [_, _, _, _, _]) ggX13_kindOf_X13_word (by decide +kernel) (by decide +kernel) (by decide +kernel) rfl (by decide +kernel) ⟨(Nat.le_of_ble_eq_true rfl), (Nat.le_of_ble_eq_true rfl)⟩ dX13_kindOf_157 rfl ⟨(Nat.le_of_ble_eq_true rfl), (Nat.le_of_ble_eq_true rfl)⟩ (Nat.le_of_ble_eq_true rfl) rfl (m_word G _ _ _ _ _ _ _) (fun v h1 z1 hq => v_pq hq ?_)
              refine v_lcmp_ne (tgt := 167) dX13_kindOf_160 dX13_kindOf_161 (by decide) (fun c_161 => ?_) (fun c_161 => ?_)
              · refine v_lload_n dX13_kindOf_167 rfl 1 rfl ?_
                refine v_bipush (v := 115) dX13_kindOf_168 (by decide) ?_
                refine v_bipush (v := 112) dX13_kindOf_170 (by decide) ?_
                refine v_bipush (v := 97) dX13_kindOf_172 (by decide) ?_
                refine v_bipush (v := 99) dX13_kindOf_174 (by decide) ?_
                refine v_bipush (v := 101) dX13_kindOf_176 (by decide) ?_
                refine v_callSq (M' := mX13_word) (n := 5) (As := [_, _, _, _, _]) ggX13_kindOf_X13_word (by decide +kernel) (by decide +kernel) (by decide +kernel) rfl (by decide +kernel) ⟨(Nat.le_of_ble_eq_true rfl), (Nat.le_of_ble_eq_true rfl)⟩ dX13_kindOf_178 rfl ⟨(Nat.le_of_ble_eq_true rfl), (Nat.le_of_ble_eq_true rfl)⟩ (Nat.le_of_ble_eq_true rfl) rfl (m_word G _ _ _ _ _ _ _) (fun v h1 z1 hq => v_pq hq ?_)
                refine v_lcmp_ne (tgt := 188) dX13_kindOf_181 dX13_kindOf_182 (by decide) (fun c_182 => ?_) (fun c_182 => ?_)
                · refine v_lload_n dX13_kindOf_188 rfl 1 rfl ?_
                  refine v_bipush (v := 99) dX13_kindOf_189 (by decide) ?_
                  refine v_bipush (v := 111) dX13_kindOf_191 (by decide) ?_
                  refine v_bipush (v := 114) dX13_kindOf_193 (by decide) ?_
                  refine v_bipush (v := 110) dX13_kindOf_195 (by decide) ?_
                  refine v_bipush (v := 101) dX13_kindOf_197 (by decide) ?_
                  refine v_callSq (M' := mX13_word) (n := 5) (As := [_, _, _, _, _]) ggX13_kindOf_X13_word (by decide +kernel) (by decide +kernel) (by decide +kernel) rfl (by decide +kernel) ⟨(Nat.le_of_ble_eq_true rfl), (Nat.le_of_ble_eq_true rfl)⟩ dX13_kindOf_199 rfl ⟨(Nat.le_of_ble_eq_true rfl), (Nat.le_of_ble_eq_true rfl)⟩ (Nat.le_of_ble_eq_true rfl) rfl (m_word G _ _ _ _ _ _ _) (fun v h1 z1 hq => v_pq hq ?_)
                  refine v_bipush (v := 114) dX13_kindOf_202 (by decide) ?_
                  refine v_iconst (v := 0) dX13_kindOf_204 (by decide) ?_
                  refine v_iconst (v := 0) dX13_kindOf_205 (by decide) ?_
                  refine v_iconst (v := 0) dX13_kindOf_206 (by decide) ?_
                  refine v_iconst (v := 0) dX13_kindOf_207 (by decide) ?_
                  refine v_callSq (M' := mX13_word) (n := 5) (As := [_, _, _, _, _]) ggX13_kindOf_X13_word (by decide +kernel) (by decide +kernel) (by decide +kernel) rfl (by decide +kernel) ⟨(Nat.le_of_ble_eq_true rfl), (Nat.le_of_ble_eq_true rfl)⟩ dX13_kindOf_208 rfl ⟨(Nat.le_of_ble_eq_true rfl), (Nat.le_of_ble_eq_true rfl)⟩ (Nat.le_of_ble_eq_true rfl) rfl (m_word G _ _ _ _ _ _ _) (fun v h1 z1 hq => v_pq hq ?_)
                  refine v_iconst (v := 1) dX13_kindOf_211 (by decide) ?_
                  refine v_callSq (M' := mX13_joined) (n := 3) (As := [_, _, _]) ggX13_kindOf_X13_joined (by decide +kernel) (by decide +kernel) (by decide +kernel) rfl (by decide +kernel) ⟨(Nat.le_of_ble_eq_true rfl), (Nat.le_of_ble_eq_true rfl)⟩ dX13_kindOf_212 rfl ⟨(Nat.le_of_ble_eq_true rfl), (Nat.le_of_ble_eq_true rfl)⟩ (Nat.le_of_ble_eq_true rfl) rfl (m_joined G _ _ 1 _ _ (by decide)) (fun v h1 z1 hq => v_pq hq ?_)
                  refine v_lcmp_ne (tgt := 222) dX13_kindOf_215 dX13_kindOf_216 (by decide) (fun c_216 => ?_) (fun c_216 => ?_)
                  · refine v_lload_n dX13_kindOf_222 rfl 1 rfl ?_
                    refine v_bipush (v := 101) dX13_kindOf_223 (by decide) ?_
                    refine v_bipush (v := 110) dX13_kindOf_225 (by decide) ?_
                    refine v_bipush (v := 99) dX13_kindOf_227 (by decide) ?_
                    refine v_bipush (v := 108) dX13_kindOf_229 (by decide) ?_
                    refine v_bipush (v := 111) dX13_kindOf_231 (by decide) ?_
                    refine v_callSq (M' := mX13_word) (n := 5) (As := [_, _, _, _, _]) ggX13_kindOf_X13_word (by decide +kernel) (by decide +kernel) (by decide +kernel) rfl (by decide +kernel) ⟨(Nat.le_of_ble_eq_true rfl), (Nat.le_of_ble_eq_true rfl)⟩ dX13_kindOf_233 rfl ⟨(Nat.le_of_ble_eq_true rfl), (Nat.le_of_ble_eq_true rfl)⟩ (Nat.le_of_ble_eq_true rfl) rfl (m_word G _ _ _ _ _ _ _) (fun v h1 z1 hq => v_pq hq ?_)
                    refine v_bipush (v := 115) dX13_kindOf_236 (by decide) ?_
                    refine v_bipush (v := 101) dX13_kindOf_238 (by decide) ?_
                    refine v_iconst (v := 0) dX13_kindOf_240 (by decide) ?_
                    refine v_iconst (v := 0) dX13_kindOf_241 (by decide) ?_
                    refine v_iconst (v := 0) dX13_kindOf_242 (by decide) ?_
                    refine v_callSq (M' := mX13_word) (n := 5) (As := [_, _, _, _, _]) ggX13_kindOf_X13_word (by decide +kernel) (by decide +kernel) (by decide +kernel) rfl (by decide +kernel) ⟨(Nat.le_of_ble_eq_true rfl), (Nat.le_of_ble_eq_true rfl)⟩ dX13_kindOf_243 rfl ⟨(Nat.le_of_ble_eq_true rfl), (Nat.le_of_ble_eq_true rfl)⟩ (Nat.le_of_ble_eq_true rfl) rfl (m_word G _ _ _ _ _ _ _) (fun v h1 z1 hq => v_pq hq ?_)
                    refine v_iconst (v := 2) dX13_kindOf_246 (by decide) ?_
                    refine v_callSq (M' := mX13_joined) (n := 3) (As := [_, _, _]) ggX13_kindOf_X13_joined (by decide +kernel) (by decide +kernel) (by decide +kernel) rfl (by decide +kernel) ⟨(Nat.le_of_ble_eq_true rfl), (Nat.le_of_ble_eq_true rfl)⟩ dX13_kindOf_247 rfl ⟨(Nat.le_of_ble_eq_true rfl), (Nat.le_of_ble_eq_true rfl)⟩ (Nat.le_of_ble_eq_true rfl) rfl (m_joined G _ _ 2 _ _ (by decide)) (fun v h1 z1 hq => v_pq hq ?_)
                    refine v_lcmp_ne (tgt := 257) dX13_kindOf_250 dX13_kindOf_251 (by decide) (fun c_251 => ?_) (fun c_251 => ?_)
                    · refine v_lload_n dX13_kindOf_257 rfl 1 rfl ?_
                      refine v_bipush (v := 111) dX13_kindOf_258 (by decide) ?_
                      refine v_bipush (v := 118) dX13_kindOf_260 (by decide) ?_
                      refine v_bipush (v := 101) dX13_kindOf_262 (by decide) ?_
                      refine v_bipush (v := 114) dX13_kindOf_264 (by decide) ?_
                      refine v_bipush (v := 108) dX13_kindOf_266 (by decide) ?_
                      refine v_callSq (M' := mX13_word) (n := 5) (As := [_, _, _, _, _]) ggX13_kindOf_X13_word (by decide +kernel) (by decide +kernel) (by decide +kernel) rfl (by decide +kernel) ⟨(Nat.le_of_ble_eq_true rfl), (Nat.le_of_ble_eq_true rfl)⟩ dX13_kindOf_268 rfl ⟨(Nat.le_of_ble_eq_true rfl), (Nat.le_of_ble_eq_true rfl)⟩ (Nat.le_of_ble_eq_true rfl) rfl (m_word G _ _ _ _ _ _ _) (fun v h1 z1 hq => v_pq hq ?_)
                      refine v_bipush (v := 97) dX13_kindOf_271 (by decide) ?_
                      refine v_bipush (v := 112) dX13_kindOf_273 (by decide) ?_
                      refine v_iconst (v := 0) dX13_kindOf_275 (by decide) ?_
                      refine v_iconst (v := 0) dX13_kindOf_276 (by decide) ?_
                      refine v_iconst (v := 0) dX13_kindOf_277 (by decide) ?_
                      refine v_callSq (M' := mX13_word) (n := 5) (As := [_, _, _, _, _]) ggX13_kindOf_X13_word (by decide +kernel) (by decide +kernel) (by decide +kernel) rfl (by decide +kernel) ⟨(Nat.le_of_ble_eq_true rfl), (Nat.le_of_ble_eq_true rfl)⟩ dX13_kindOf_278 rfl ⟨(Nat.le_of_ble_eq_true rfl), (Nat.le_of_ble_eq_true rfl)⟩ (Nat.le_of_ble_eq_true rfl) rfl (m_word G _ _ _ _ _ _ _) (fun v h1 z1 hq => v_pq hq ?_)
                      refine v_iconst (v := 2) dX13_kindOf_281 (by decide) ?_
                      refine v_callSq (M' := mX13_joined) (n := 3) (As := [_, _, _]) ggX13_kindOf_X13_joined (by decide +kernel) (by decide +kernel) (by decide +kernel) rfl (by decide +kernel) ⟨(Nat.le_of_ble_eq_true rfl), (Nat.le_of_ble_eq_true rfl)⟩ dX13_kindOf_282 rfl ⟨(Nat.le_of_ble_eq_true rfl), (Nat.le_of_ble_eq_true rfl)⟩ (Nat.le_of_ble_eq_true rfl) rfl (m_joined G _ _ 2 _ _ (by decide)) (fun v h1 z1 hq => v_pq hq ?_)
                      refine v_lcmp_ne (tgt := 294) dX13_kindOf_285 dX13_kindOf_286 (by decide) (fun c_286 => ?_) (fun c_286 => ?_)
                      · refine v_iconst (v := (-1)) dX13_kindOf_294 (by decide) ?_
                        exact v_iret rfl dX13_kindOf_295 (Nat.le_of_ble_eq_true rfl) (Nat.le_of_ble_eq_true rfl) rfl ⟨congrArg (fun i => some (Value.int i)) (by unfold kdo; first | rw [if_neg (show ¬ w = kw 0 from c_15), if_neg (show ¬ w = kw 1 from c_35), if_neg (show ¬ w = kw 2 from c_54), if_neg (show ¬ w = kw 3 from c_73), if_neg (show ¬ w = kw 4 from c_107), if_neg (show ¬ w = kw 5 from c_141), if_neg (show ¬ w = kw 6 from c_161), if_neg (show ¬ w = kw 7 from c_182), if_neg (show ¬ w = kw 8 from c_216), if_neg (show ¬ w = kw 9 from c_251), if_pos (show w = kw 10 from c_286)] | rw [if_neg (show ¬ w = kw 0 from c_15), if_neg (show ¬ w = kw 1 from c_35), if_neg (show ¬ w = kw 2 from c_54), if_neg (show ¬ w = kw 3 from c_73), if_neg (show ¬ w = kw 4 from c_107), if_neg (show ¬ w = kw 5 from c_141), if_neg (show ¬ w = kw 6 from c_161), if_neg (show ¬ w = kw 7 from c_182), if_neg (show ¬ w = kw 8 from c_216), if_neg (show ¬ w = kw 9 from c_251), if_neg (show ¬ w = kw 10 from c_286)]), rfl, rfl⟩
                      · refine v_bipush (v := 10) dX13_kindOf_289 (by decide) ?_
                        refine v_goto (tgt := 295) dX13_kindOf_291 (by decide) ?_
                        exact v_iret rfl dX13_kindOf_295 (Nat.le_of_ble_eq_true rfl) (Nat.le_of_ble_eq_true rfl) rfl ⟨congrArg (fun i => some (Value.int i)) (by unfold kdo; first | rw [if_neg (show ¬ w = kw 0 from c_15), if_neg (show ¬ w = kw 1 from c_35), if_neg (show ¬ w = kw 2 from c_54), if_neg (show ¬ w = kw 3 from c_73), if_neg (show ¬ w = kw 4 from c_107), if_neg (show ¬ w = kw 5 from c_141), if_neg (show ¬ w = kw 6 from c_161), if_neg (show ¬ w = kw 7 from c_182), if_neg (show ¬ w = kw 8 from c_216), if_neg (show ¬ w = kw 9 from c_251), if_pos (show w = kw 10 from c_286)] | rw [if_neg (show ¬ w = kw 0 from c_15), if_neg (show ¬ w = kw 1 from c_35), if_neg (show ¬ w = kw 2 from c_54), if_neg (show ¬ w = kw 3 from c_73), if_neg (show ¬ w = kw 4 from c_107), if_neg (show ¬ w = kw 5 from c_141), if_neg (show ¬ w = kw 6 from c_161), if_neg (show ¬ w = kw 7 from c_182), if_neg (show ¬ w = kw 8 from c_216), if_neg (show ¬ w = kw 9 from c_251), if_neg (show ¬ w = kw 10 from c_286)]), rfl, rfl⟩
                    · refine v_bipush (v := 9) dX13_kindOf_254 (by decide) ?_
                      exact v_iret rfl dX13_kindOf_256 (Nat.le_of_ble_eq_true rfl) (Nat.le_of_ble_eq_true rfl) rfl ⟨congrArg (fun i => some (Value.int i)) (by unfold kdo; rw [if_neg (show ¬ w = kw 0 from c_15), if_neg (show ¬ w = kw 1 from c_35), if_neg (show ¬ w = kw 2 from c_54), if_neg (show ¬ w = kw 3 from c_73), if_neg (show ¬ w = kw 4 from c_107), if_neg (show ¬ w = kw 5 from c_141), if_neg (show ¬ w = kw 6 from c_161), if_neg (show ¬ w = kw 7 from c_182), if_neg (show ¬ w = kw 8 from c_216), if_pos (show w = kw 9 from c_251)]), rfl, rfl⟩
                  · refine v_bipush (v := 8) dX13_kindOf_219 (by decide) ?_
                    exact v_iret rfl dX13_kindOf_221 (Nat.le_of_ble_eq_true rfl) (Nat.le_of_ble_eq_true rfl) rfl ⟨congrArg (fun i => some (Value.int i)) (by unfold kdo; rw [if_neg (show ¬ w = kw 0 from c_15), if_neg (show ¬ w = kw 1 from c_35), if_neg (show ¬ w = kw 2 from c_54), if_neg (show ¬ w = kw 3 from c_73), if_neg (show ¬ w = kw 4 from c_107), if_neg (show ¬ w = kw 5 from c_141), if_neg (show ¬ w = kw 6 from c_161), if_neg (show ¬ w = kw 7 from c_182), if_pos (show w = kw 8 from c_216)]), rfl, rfl⟩
                · refine v_bipush (v := 7) dX13_kindOf_185 (by decide) ?_
                  exact v_iret rfl dX13_kindOf_187 (Nat.le_of_ble_eq_true rfl) (Nat.le_of_ble_eq_true rfl) rfl ⟨congrArg (fun i => some (Value.int i)) (by unfold kdo; rw [if_neg (show ¬ w = kw 0 from c_15), if_neg (show ¬ w = kw 1 from c_35), if_neg (show ¬ w = kw 2 from c_54), if_neg (show ¬ w = kw 3 from c_73), if_neg (show ¬ w = kw 4 from c_107), if_neg (show ¬ w = kw 5 from c_141), if_neg (show ¬ w = kw 6 from c_161), if_pos (show w = kw 7 from c_182)]), rfl, rfl⟩
              · refine v_bipush (v := 6) dX13_kindOf_164 (by decide) ?_
                exact v_iret rfl dX13_kindOf_166 (Nat.le_of_ble_eq_true rfl) (Nat.le_of_ble_eq_true rfl) rfl ⟨congrArg (fun i => some (Value.int i)) (by unfold kdo; rw [if_neg (show ¬ w = kw 0 from c_15), if_neg (show ¬ w = kw 1 from c_35), if_neg (show ¬ w = kw 2 from c_54), if_neg (show ¬ w = kw 3 from c_73), if_neg (show ¬ w = kw 4 from c_107), if_neg (show ¬ w = kw 5 from c_141), if_pos (show w = kw 6 from c_161)]), rfl, rfl⟩
            · refine v_iconst (v := 5) dX13_kindOf_144 (by decide) ?_
              exact v_iret rfl dX13_kindOf_145 (Nat.le_of_ble_eq_true rfl) (Nat.le_of_ble_eq_true rfl) rfl ⟨congrArg (fun i => some (Value.int i)) (by unfold kdo; rw [if_neg (show ¬ w = kw 0 from c_15), if_neg (show ¬ w = kw 1 from c_35), if_neg (show ¬ w = kw 2 from c_54), if_neg (show ¬ w = kw 3 from c_73), if_neg (show ¬ w = kw 4 from c_107), if_pos (show w = kw 5 from c_141)]), rfl, rfl⟩
          · refine v_iconst (v := 4) dX13_kindOf_110 (by decide) ?_
            exact v_iret rfl dX13_kindOf_111 (Nat.le_of_ble_eq_true rfl) (Nat.le_of_ble_eq_true rfl) rfl ⟨congrArg (fun i => some (Value.int i)) (by unfold kdo; rw [if_neg (show ¬ w = kw 0 from c_15), if_neg (show ¬ w = kw 1 from c_35), if_neg (show ¬ w = kw 2 from c_54), if_neg (show ¬ w = kw 3 from c_73), if_pos (show w = kw 4 from c_107)]), rfl, rfl⟩
        · refine v_iconst (v := 3) dX13_kindOf_76 (by decide) ?_
          exact v_iret rfl dX13_kindOf_77 (Nat.le_of_ble_eq_true rfl) (Nat.le_of_ble_eq_true rfl) rfl ⟨congrArg (fun i => some (Value.int i)) (by unfold kdo; rw [if_neg (show ¬ w = kw 0 from c_15), if_neg (show ¬ w = kw 1 from c_35), if_neg (show ¬ w = kw 2 from c_54), if_pos (show w = kw 3 from c_73)]), rfl, rfl⟩
      · refine v_iconst (v := 2) dX13_kindOf_57 (by decide) ?_
        exact v_iret rfl dX13_kindOf_58 (Nat.le_of_ble_eq_true rfl) (Nat.le_of_ble_eq_true rfl) rfl ⟨congrArg (fun i => some (Value.int i)) (by unfold kdo; rw [if_neg (show ¬ w = kw 0 from c_15), if_neg (show ¬ w = kw 1 from c_35), if_pos (show w = kw 2 from c_54)]), rfl, rfl⟩
    · refine v_iconst (v := 1) dX13_kindOf_38 (by decide) ?_
      exact v_iret rfl dX13_kindOf_39 (Nat.le_of_ble_eq_true rfl) (Nat.le_of_ble_eq_true rfl) rfl ⟨congrArg (fun i => some (Value.int i)) (by unfold kdo; rw [if_neg (show ¬ w = kw 0 from c_15), if_pos (show w = kw 1 from c_35)]), rfl, rfl⟩
  · refine v_iconst (v := 0) dX13_kindOf_18 (by decide) ?_
    exact v_iret rfl dX13_kindOf_19 (Nat.le_of_ble_eq_true rfl) (Nat.le_of_ble_eq_true rfl) rfl ⟨congrArg (fun i => some (Value.int i)) (by unfold kdo; rw [if_pos (show w = kw 0 from c_15)]), rfl, rfl⟩

